/-! constructors: pools that grow -/
theorem ga {α : Type} (ws L : List α) (j : Nat) : (ws ++ L)[ws.length + j]? = L[j]? := by
  rw [List.getElem?_append_right (Nat.le_add_right _ _), Nat.add_sub_cancel_left]
theorem sa {α : Type} (ws L : List α) (j : Nat) (v : α) : (ws ++ L).set (ws.length + j) v = ws ++ L.set j v := by
  rw [List.set_append_right _ _ (Nat.le_add_right _ _), Nat.add_sub_cancel_left]
abbrev Rc (f w mc ms : Nat) : Room := { frames := f, cells := mc, slots := ms, locals := w }
def AOs (U : State) : Prop := va_AO "OpinionFerry$Word" U ∧ va_AO "OpinionFerry$Scene" U ∧ va_AO "OpinionFerry$World" U
def Bc (G : Gx) (ws : va_W) (U : State) : Prop := va_P G.1 vwCl ws U.heap ∧ va_D G.2.2.2.2 ws ∧ va_K G.1 vwCl (tysG G) U ∧ (∀ q, U.heap.size ≤ q → G.2.2.2.2 q) ∧ AOs U ∧ Nst U
theorem AOs.moved {u U : State} (hvm : u.vm.Alike U.vm) (h : AOs u) : AOs U := ⟨h.1.moved hvm, h.2.1.moved hvm, h.2.2.moved hvm⟩
theorem Bc_blind {G : Gx} {ws : va_W} {as : List Value} : FrameBlind (va_Pc as (Bc G ws)) := fun a U g mk q => by
  obtain ⟨q0, qP, qD, qK, qA, qO, qN⟩ := q
  exact ⟨q0, qP, qD, va_K.moved (u := U) (U := U.calling g mk a) (Vm.Alike.refl U.vm) qK, qA, AOs.moved (u := U) (U := U.calling g mk a) (Vm.Alike.refl U.vm) qO, Nst.same (s := U) (U := U.calling g mk a) rfl qN⟩
abbrev Sc (G : Gx) (p : Program) (m : MethodId) (c : Code) (cc : ByteArray) (nL : Nat) (s : State) (args : Array Value) (own : String) : Prop :=
  CallFix p m c cc nL s args tbg own ∧ va_K G.1 vwCl (tysG G) s ∧ (∀ q, s.heap.size ≤ q → G.2.2.2.2 q) ∧ AOs s ∧ Nst s
abbrev Xc (G : Gx) (s : State) (H : Heap) (locs : List Loc) (ws : va_W) : Prop := va_P G.1 vwCl ws H ∧ va_D G.2.2.2.2 ws ∧ va_S G.2.2.2.2 s.heap H locs
theorem Bc_in {G : Gx} {p : Program} {m : MethodId} {c : Code} {cc : ByteArray} {nL : Nat} {s : State} {args : Array Value} {own : String} {H : Heap} {locs : List Loc} {ws : va_W} (S : Sc G p m c cc nL s args own) (X : Xc G s H locs ws) {U : State} (hU : U.heap = H) (hW : s.WarmedH U.vm) : Bc G ws U := by
  obtain ⟨-, hK, hA, hO, hN⟩ := S
  exact ⟨by rw [hU]; exact X.1, X.2.1, va_K.moved hW.alike hK, fun q hq => hA q (Nat.le_trans X.2.2.1 (by rw [← hU]; exact hq)), hO.moved hW.alike, hN.warm hW⟩
def Cc (l : Launch) (G : Gx) (y : MethodName) (cc : ByteArray) (n f w mc ms : Nat) (as : List Value) (ws : va_W) (post : va_W → Prop) : Prop :=
  Met l y (Ws y cc n none) (Rc f w mc ms) (va_Pc as (Bc G ws)) (va_Qv post (Bc G) G.2.2.2.2) mc ms G.2.2.2.2
theorem Cc_of {l : Launch} {G : Gx} {y : MethodName} {cc : ByteArray} {n f w mc ms : Nat} {as : List Value} {ws : va_W} {own : String} {Qc : Array Value → State → Outcome → State → Prop} (hy : plainName y.cls = true) (ho : y.cls = own) (hlen : (lg_sl as).length ≤ n)
    (body : ∀ (p : Program) (e : Env) (s : State) (m : MethodId) (below : List Frame) (meth : Method) (c : Code) (ls : Array Slot), Sc G p m c cc n s as.toArray own → meth.sig.returnType = none → meth.locks = false → meth.name = y.name → Xc G s s.heap [] ws → lv_has ls n (lv_args 0 as) →
      W p l e (Rc f w mc ms) s m as.toArray below meth c s.heap [] 0 0 (MQ below Qc as.toArray s mc ms G.2.2.2.2) (F0 m 0 ls [])) :
    Met l y (Ws y cc n none) (Rc f w mc ms) (va_Pc as (Bc G ws)) Qc mc ms G.2.2.2.2 := by
  subst ho
  refine Met.ofW (cc := cc) (maxL := n) (ret := none) hy rfl ?_
  intro p e s m args below meth c s₁ B hml hv
  obtain ⟨rfl, hP, hD, hK, hA, hO, hN⟩ := hv
  have hts := atoms_spec (ws := Ws y cc n none) B.pre
  have hown : s.vm.findClass y.cls = some m.cls := findClass_of_methodNamed B.named
  have hnm : meth.name = y.name := (name_of_methodNamed B.named B.method).1
  rw [lg_entry_eq]
  exact body p e s m below meth c _ ⟨⟨B.exec, B.bytes, hml, hown, fun w h => hts w (List.mem_cons_of_mem _ h)⟩, hK, hA, hO, hN⟩ B.returns B.notSynchronized hnm ⟨hP, hD, va_S.rf⟩ (lv_entry as hlen)
/-- the link of a 'new': class ci, N fields, their first values -/
def Nw (own : String) (index ci N : Nat) (fs : List Value) : Prop := ∃ (C : String) (T : u_T) (ty : Nat → FieldType), vwCl[ci]? = some (C, T, N) ∧ (∀ w ∈ u_ws C T N, w ∈ tbg) ∧ (∀ k, k < N → parseFieldDescriptor (T k).2.2.1 = some (ty k)) ∧ Cond.classLink own index C ∈ tbg ∧ Cond.instantiable C N ∈ tbg ∧ Cond.initialized C ∈ tbg ∧ ∀ j, j < N → defaultValue (ty j) = vp_V fs j
def CkI (own : String) (index : Nat) (y : MethodName) (bytes : ByteArray) (maxL n : Nat) : Prop := Cond.methodLink own index y ∈ tbg ∧ Cond.initialized y.cls ∈ tbg ∧ Cond.code y bytes maxL none ∈ tbg ∧ (y.cls ≠ "java/lang/invoke/MethodHandle" ∧ y.cls ≠ "java/lang/invoke/VarHandle" ∧ (parseMethodDescriptor y.desc).map (fun d => d.parameters.length) = some n) ∧ Cond.instanceMethod y ∈ tbg
def CkJ (own : String) (index : Nat) (y : MethodName) (host : String) (bytes : ByteArray) (maxL n : Nat) : Prop := (own, index, y, host) ∈ nstL ∧ Cond.initialized y.cls ∈ tbg ∧ Cond.code y bytes maxL none ∈ tbg ∧ (y.cls ≠ "java/lang/invoke/MethodHandle" ∧ y.cls ≠ "java/lang/invoke/VarHandle" ∧ (parseMethodDescriptor y.desc).map (fun d => d.parameters.length) = some n) ∧ Cond.instanceMethod y ∈ tbg
theorem kuniq {G : Gx} {U : State} {cA : ClassId} {ty : FieldType} {t0 : Nat} (h1 : va_K G.1 vwCl (tysG G) U) (h2 : va_K G.1 vwCl (tysG G ++ [(cA, ty)]) U) (ht : (tysG G)[t0]? = some (G.2.1 t0, ty)) : cA = G.2.1 t0 := by
  have a := (h1.2 t0 _ ht).2
  have b := (h2.2 (tysG G).length (cA, ty) (by rw [List.getElem?_append_right (Nat.le_refl _), Nat.sub_self]; rfl)).2
  cases ty with
  | object C =>
    obtain ⟨kA, comp, -, -, -, a4⟩ := a
    obtain ⟨kB, com2, -, -, -, b4⟩ := b
    exact Option.some.inj (b4.symm.trans a4)
  | _ => exact Option.some.inj (Eq.trans (Eq.symm b) a)
section RCC
variable {p : Program} {l : Launch} {e : Env} {Rr : Room} {s : State} {m : MethodId} {args : Array Value} {below : List Frame} {meth : Method} {c : Code} {H : Heap} {locs : List Loc} {cells slots : Nat} {Q : State → Prop}
variable {cc : ByteArray} {nL pc : Nat} {ls : Array Slot} {rest st As : List Value} {G : Gx} {own : String} {ws L : va_W}
theorem c_new {index ci N : Nat} {fs : List Value} (S : Sc G p m c cc nL s args own) (X : Xc G s H locs (ws ++ L)) (nw : Nw own index ci N fs) (hR : cells + 1 ≤ Rr.cells ∧ slots + N ≤ Rr.slots) (hdg : decode cc pc = .ok (.new index, 3))
    (kk : ∀ (q : Nat) (H1 : Heap), Xc G s H1 locs (ws ++ (L ++ [(q, .inr (ci, fs))])) → W p l e Rr s m args below meth c H1 locs (cells + 1) (slots + N) Q (F0 m (pc + 3) ls (.ref q :: rest))) : W p l e Rr s m args below meth c H locs cells slots Q (F0 m pc ls rest) := by
  obtain ⟨⟨hx, hb, hml, hown, hts⟩, hK, hA, hO, hN⟩ := S
  obtain ⟨hP, hD, hS⟩ := X
  obtain ⟨C, T, ty, h1, h2, h3, h4, h5, h6, h7⟩ := nw
  refine va_new hx hb hts h2 ty h3 hown (hts _ h4) (hts _ h5) (hts _ h6) hK hP hD hS hA h1 h7 hR.1 hR.2 hdg (fun q H1 hP1 hD1 hS1 => kk q H1 ?_)
  rw [List.append_assoc] at hP1 hD1
  exact ⟨hP1, hD1, hS1⟩
theorem c_newa {atype : ArrayType} {ty : FieldType} {t0 N : Nat} {v : Int32} {a0 : vp_A} (S : Sc G p m c cc nL s args own) (X : Xc G s H locs (ws ++ L)) (harr : Cond.arrayClass (newarray.typeOf atype) ∈ tbg) (hty : newarray.typeOf atype = ty) (ht : (tysG G)[t0]? = some (G.2.1 t0, ty)) (ha : ∀ cA : ClassId, vp_cell cA a0 = arrV cA N (fun _ => defaultValue ty)) (hv : v.toInt = (N : Int)) (hbytes : N * componentBytes ty ≤ 536870912) (hR : cells + 1 ≤ Rr.cells ∧ slots + N ≤ Rr.slots) (hdg : decode cc pc = .ok (.newarray atype, 2))
    (kk : ∀ (q : Nat) (H1 : Heap), Xc G s H1 locs (ws ++ (L ++ [(q, .inl (G.2.1 t0, a0))])) → W p l e Rr s m args below meth c H1 locs (cells + 1) (slots + N) Q (F0 m (pc + 2) ls (.ref q :: rest))) : W p l e Rr s m args below meth c H locs cells slots Q (F0 m pc ls (.int v :: rest)) := by
  obtain ⟨⟨hx, hb, hml, hown, hts⟩, hK, hA, hO, hN⟩ := S
  obtain ⟨hP, hD, hS⟩ := X
  have e0 : (0 : Int32).toInt = 0 := rfl
  refine va_newa hx hb (hts _ harr) hty hK hP hD hS hA ha (fun h => by have := Int32.lt_iff_toInt_lt.mp h; omega) (by have : v.toNatClampNeg = v.toInt.toNat := rfl; omega) hbytes hR.1 hR.2 hdg (fun q cA H1 hK1 hP1 hD1 hS1 => ?_)
  have hu := kuniq hK hK1 ht
  subst hu
  rw [List.append_assoc] at hP1 hD1
  exact kk q H1 ⟨hP1, hD1, hS1⟩
theorem c_newq {C : String} {index t0 N : Nat} {v : Int32} (S : Sc G p m c cc nL s args own) (X : Xc G s H locs (ws ++ L)) (hl : Cond.classLink own index C ∈ tbg) (hover : va_AO C s) (ht : (tysG G)[t0]? = some (G.2.1 t0, .object C)) (hv : v.toInt = (N : Int)) (hbytes : N * 4 ≤ 536870912) (hR : cells + 1 ≤ Rr.cells ∧ slots + N ≤ Rr.slots) (hdg : decode cc pc = .ok (.anewarray index, 3))
    (kk : ∀ (q : Nat) (H1 : Heap), Xc G s H1 locs (ws ++ (L ++ [(q, .inl (G.2.1 t0, N, .inr (.inr (.inr (.inr fun _ => none)))))])) → W p l e Rr s m args below meth c H1 locs (cells + 1) (slots + N) Q (F0 m (pc + 3) ls (.ref q :: rest))) : W p l e Rr s m args below meth c H locs cells slots Q (F0 m pc ls (.int v :: rest)) := by
  obtain ⟨⟨hx, hb, hml, hown, hts⟩, hK, hA, hO, hN⟩ := S
  obtain ⟨hP, hD, hS⟩ := X
  have e0 : (0 : Int32).toInt = 0 := rfl
  refine va_newq hx hb hown (hts _ hl) hover hK hP hD hS hA (fun h => by have := Int32.lt_iff_toInt_lt.mp h; omega) (by have : v.toNatClampNeg = v.toInt.toNat := rfl; omega) hbytes hR.1 hR.2 hdg (fun q cA H1 hK1 hP1 hD1 hS1 => ?_)
  have hu := kuniq hK hK1 ht
  subst hu
  rw [List.append_assoc] at hP1 hD1
  exact kk q H1 ⟨hP1, hD1, hS1⟩
theorem c_put {i ci j index a : Nat} {fs : List Value} {v : Value} {ty : FieldType} (S : Sc G p m c cc nL s args own) (X : Xc G s H locs (ws ++ L)) (lk : Lk own index ci j) (hi : L[i]? = some (a, .inr (ci, fs))) (hf : ∀ C T N, vwCl[ci]? = some (C, T, N) → ((T j).2.2.2 = false ∨ ((T j).2.2.2 = true ∧ (T j).1 = own ∧ meth.name = "<init>")) ∧ parseFieldDescriptor (T j).2.2.1 = some ty) (hn : narrow ty v = v) (hfit : fits ty v = true) (hj : j < fs.length) (hdg : decode cc pc = .ok (.putfield index, 3))
    (kk : ∀ (H1 : Heap) (locs1 : List Loc), Xc G s H1 locs1 (ws ++ L.set i (a, .inr (ci, fs.set j v))) → W p l e Rr s m args below meth c H1 locs1 cells slots Q (F0 m (pc + 3) ls rest)) : W p l e Rr s m args below meth c H locs cells slots Q (F0 m pc ls (v :: .ref a :: rest)) := by
  obtain ⟨⟨hx, hb, hml, hown, hts⟩, hK, hA, hO, hN⟩ := S
  obtain ⟨hP, hD, hS⟩ := X
  obtain ⟨C, ref, T, N, ty0, hc, hjN, hin, hty, hnm, hl, hsame⟩ := lk
  obtain ⟨f1, f2⟩ := hf C T N hc
  have he : (ws ++ L)[ws.length + i]? = some (a, .inr (ci, fs)) := by rw [ga]; exact hi
  have hsm : ∀ x, s.fieldFound? (T j).1 (T j).2.1 (T j).2.2.1 = some x → s.fieldFound? ref (T j).2.1 (T j).2.2.1 = some x := fun x hf => by
    rcases hsame with h | h
    · rw [h]; exact hf
    · exact u_same (hts _ h) _ hf
  rcases f1 with f1 | ⟨f1, f3, f4⟩
  · refine va_put hx hb hts hin ty0 hty hnm hown hK hP hD hS (ws.length + i) he hc j hjN (hts _ hl) hsm f1 f2 hn hfit hj hdg (fun H1 locs1 hP1 hD1 hS1 => kk H1 locs1 ?_)
    rw [sa] at hP1 hD1
    exact ⟨hP1, hD1, hS1⟩
  · refine va_putF hx hb hts hin ty0 hty hnm hown hK hP hD hS (ws.length + i) he hc j hjN (hts _ hl) hsm f1 f4 f3 f2 hn hfit hj hdg (fun H1 locs1 hP1 hD1 hS1 => kk H1 locs1 ?_)
    rw [sa] at hP1 hD1
    exact ⟨hP1, hD1, hS1⟩
theorem c_get {i ci j index a : Nat} {fs : List Value} {v : Value} (S : Sc G p m c cc nL s args own) (X : Xc G s H locs (ws ++ L)) (lk : Lk own index ci j) (hi : L[i]? = some (a, .inr (ci, fs))) (hv : fs[j]? = some v) (hdg : decode cc pc = .ok (.getfield index, 3))
    (kk : W p l e Rr s m args below meth c H locs cells slots Q (F0 m (pc + 3) ls (v :: rest))) : W p l e Rr s m args below meth c H locs cells slots Q (F0 m pc ls (.ref a :: rest)) := by
  obtain ⟨⟨hx, hb, hml, hown, hts⟩, hK, hA, hO, hN⟩ := S
  obtain ⟨hP, hD, hS⟩ := X
  obtain ⟨C, ref, T, N, ty0, hc, hjN, hin, hty, hnm, hl, hsame⟩ := lk
  have he : (ws ++ L)[ws.length + i]? = some (a, .inr (ci, fs)) := by rw [ga]; exact hi
  refine va_get hx hb hts hin hown hK hP (ws.length + i) he hc j hjN (hts _ hl) (fun x hf => ?_) hv hdg kk
  rcases hsame with h | h
  · rw [h]; exact hf
  · exact u_same (hts _ h) _ hf
theorem c_obj {idx a : Nat} (S : Sc G p m c cc nL s args own) (h1 : Cond.methodLink own idx Lib.objectInit ∈ tbg) (h2 : Cond.instanceMethod Lib.objectInit ∈ tbg) (h3 : Cond.code Lib.objectInit ⟨#[0xb1]⟩ 1 none ∈ tbg) (hsz : ls.size = nL) (hR : 1 ≤ Rr.frames ∧ (rest.map fun v => v.category).sum + 12 ≤ Rr.locals) (hdg : decode cc pc = .ok (.invokespecial idx, 3))
    (kk : W p l e Rr s m args below meth c H locs cells slots Q (F0 m (pc + 3) ls rest)) : W p l e Rr s m args below meth c H locs cells slots Q (F0 m pc ls (.ref a :: rest)) := by
  obtain ⟨⟨hx, hb, hml, hown, hts⟩, hK, hA, hO, hN⟩ := S
  exact W.objInit hx hb hown (hts _ h1) (hts _ h2) (hts _ h3) rfl (hsz.trans hml.symm) rfl hdg hR.1 (by show 2 * 0 + _ + 12 ≤ _; omega) kk
theorem c_lst {i n a : Nat} {f : Nat → Int64} {k : Int32} {x : Int64} (S : Sc G p m c cc nL s args own) (X : Xc G s H locs (ws ++ L)) (hi : L[i]? = some (a, .inl (G.2.1 1, n, .inr (.inl f)))) (hk : 0 ≤ k.toInt ∧ k.toInt < n) (hdg : decode cc pc = .ok (.lastore, 1))
    (kk : ∀ (H1 : Heap) (locs1 : List Loc) (g : Nat → Int64), g = vp_updL f k.toNatClampNeg x → Xc G s H1 locs1 (ws ++ L.set i (a, .inl (G.2.1 1, n, .inr (.inl g)))) → W p l e Rr s m args below meth c H1 locs1 cells slots Q (F0 m (pc + 1) ls rest)) : W p l e Rr s m args below meth c H locs cells slots Q (F0 m pc ls (.long x :: .int k :: .ref a :: rest)) := by
  obtain ⟨⟨hx, hb, hml, hown, hts⟩, hK, hA, hO, hN⟩ := S
  obtain ⟨hP, hD, hS⟩ := X
  have he : (ws ++ L)[ws.length + i]? = some (a, .inl (G.2.1 1, n, .inr (.inl f))) := by rw [ga]; exact hi
  refine va_last hx hb hK hP hD hS (ws.length + i) 1 he rfl (vp_in_iff.mpr hk) hdg (fun H1 locs1 hP1 hD1 hS1 => ?_)
  rw [sa] at hP1 hD1
  exact kk H1 locs1 _ rfl ⟨hP1, hD1, hS1⟩
theorem c_vret {post : va_W → Prop} (S : Sc G p m c cc nL s args own) (hr : meth.sig.returnType = none) (hlk : meth.locks = false) (X : Xc G s H locs ws) (hp : post ws) (hdg : decode cc pc = .ok (.return_, 1)) :
    W p l e Rr s m args below meth c H locs cells slots (MQ below (va_Qv post (Bc G) G.2.2.2.2) args s cells slots G.2.2.2.2) (F0 m pc ls []) :=
  W.vret S.1.1 S.1.2.1 hr (fun t ht hW => ⟨⟨ws, rfl, hp, Bc_in S X ht hW⟩, X.2.2.F ht⟩) X.2.2.2.2 hdg hlk
variable {y : MethodName} {bytes : ByteArray} {maxL n index f w mc ms b : Nat} {Qc : Array Value → State → Outcome → State → Prop}
theorem c_runI (S : Sc G p m c cc nL s args own) (X : Xc G s H locs ws) (hM : Met l y (Ws y bytes maxL none) (Rc f w mc ms) (va_Pc (.ref b :: As) (Bc G ws)) Qc mc ms G.2.2.2.2) (ck : CkI own index y bytes maxL n) (hy : y.name = "<init>") (hR : f + 1 ≤ Rr.frames ∧ 8 + (maxL + 11) + w ≤ Rr.locals) (hn : As.length = n) (hsz : ls.size = nL) (hst : st = As.reverse ++ .ref b :: rest) (hrest : (rest.map fun v => v.category).sum ≤ 8) (hdg : decode cc pc = .ok (.invokespecial index, 3)) (hf : cells + mc ≤ Rr.cells ∧ slots + ms ≤ Rr.slots) :
    va_Run p l e Rr s m args below meth c H locs cells slots mc ms (F0 m pc ls st) rest (Qc (Value.ref b :: As).toArray) G.2.2.2.2 := by
  obtain ⟨c1, c2, c3, c4, c5⟩ := ck
  have hts := S.1.2.2.2.2
  exact va_runI S.1 hM ⟨callB_of n hts (good_ws c3) rfl rfl rfl (hts _ c2) (hts _ c1) c4 hR, hy, hts _ c5⟩ ⟨Bc_blind, fun U hU hW => ⟨rfl, Bc_in S X hU hW⟩⟩ rfl hn hsz hst (lv_room hrest) hdg hf
theorem c_runJ {host : String} (S : Sc G p m c cc nL s args own) (X : Xc G s H locs ws) (hM : Met l y (Ws y bytes maxL none) (Rc f w mc ms) (va_Pc (.ref b :: As) (Bc G ws)) Qc mc ms G.2.2.2.2) (ck : CkJ own index y host bytes maxL n) (hy : y.name = "<init>") (hR : f + 1 ≤ Rr.frames ∧ 8 + (maxL + 11) + w ≤ Rr.locals) (hn : As.length = n) (hsz : ls.size = nL) (hst : st = As.reverse ++ .ref b :: rest) (hrest : (rest.map fun v => v.category).sum ≤ 8) (hdg : decode cc pc = .ok (.invokespecial index, 3)) (hf : cells + mc ≤ Rr.cells ∧ slots + ms ≤ Rr.slots) :
    va_Run p l e Rr s m args below meth c H locs cells slots mc ms (F0 m pc ls st) rest (Qc (Value.ref b :: As).toArray) G.2.2.2.2 := by
  obtain ⟨c1, c2, c3, c4, c5⟩ := ck
  have hts := S.1.2.2.2.2
  have hc : Cond.code y bytes maxL none ∈ Ws y bytes maxL none := List.mem_cons_self
  refine va_runIN S.1 hM ⟨⟨⟨rfl, rfl, hR.1, hR.2, pay_in hts (good_ws c3), hc⟩, hts _ c3, hts _ c2, ⟨c4.1, c4.2.1⟩, fun sig h => ?_, va_Nw.use rfl (S.2.2.2.2 _ c1)⟩, hy, hts _ c5⟩ ⟨Bc_blind, fun U hU hW => ⟨rfl, Bc_in S X hU hW⟩⟩ rfl hn hsz hst (lv_room hrest) hdg hf
  have h2 := c4.2.2
  rw [h] at h2
  exact (Option.some.inj h2).symm
theorem c_kv {post : va_W → Prop} {a : Array Value} (hr : va_Run p l e Rr s m args below meth c H locs cells slots mc ms (F0 m pc ls st) rest (va_Qv post (Bc G) G.2.2.2.2 a) G.2.2.2.2) (X : Xc G s H locs ws)
    (kk : ∀ (u : va_W) (H1 : Heap) (locs1 : List Loc), post u → Xc G s H1 locs1 u → W p l e Rr s m args below meth c H1 locs1 (cells + mc) (slots + ms) Q (F0 m (pc + 3) ls rest)) : W p l e Rr s m args below meth c H locs cells slots Q (F0 m pc ls st) :=
  va_callv hr X.2.2 (fun _ _ h => h) (fun _ h => h) (fun u t H1 locs1 ht hvm hw hB hz1 hk1 hS => kk u H1 locs1 hw ⟨by rw [← ht]; exact hB.1, hB.2.1, hS⟩)
theorem c_ast {i k n a b cj : Nat} {C : String} {t0 : Nat} {g : Nat → Option Nat} {v : Int32} {fs : List Value} {T : u_T} {N : Nat} (S : Sc G p m c cc nL s args own) (X : Xc G s H locs (ws ++ L)) (hi : L[i]? = some (a, .inl (G.2.1 t0, n, .inr (.inr (.inr (.inr g)))))) (ht : (tysG G)[t0]? = some (G.2.1 t0, .object C)) (hk : L[k]? = some (b, .inr (cj, fs))) (hc : vwCl[cj]? = some (C, T, N)) (hv : 0 ≤ v.toInt ∧ v.toInt < n) (hdg : decode cc pc = .ok (.aastore, 1))
    (kk : ∀ (H1 : Heap) (locs1 : List Loc), Xc G s H1 locs1 (ws ++ L.set i (a, .inl (G.2.1 t0, n, .inr (.inr (.inr (.inr (va_up g v.toNatClampNeg (some b)))))))) → W p l e Rr s m args below meth c H1 locs1 cells slots Q (F0 m (pc + 1) ls rest)) : W p l e Rr s m args below meth c H locs cells slots Q (F0 m pc ls (.ref b :: .int v :: .ref a :: rest)) := by
  obtain ⟨⟨hx, hb, hml, hown, hts⟩, hK, hA, hO, hN⟩ := S
  obtain ⟨hP, hD, hS⟩ := X
  have h1 : (ws ++ L)[ws.length + i]? = some (a, .inl (G.2.1 t0, n, .inr (.inr (.inr (.inr g))))) := by rw [ga]; exact hi
  have h2 : (ws ++ L)[ws.length + k]? = some (b, .inr (cj, fs)) := by rw [ga]; exact hk
  refine va_astq (r := (C, T, N)) hx hb hK hP hD hS (ws.length + i) t0 (ws.length + k) cj h1 ht h2 hc (vp_in_iff.mpr hv) hdg (fun H1 locs1 hP1 hD1 hS1 => kk H1 locs1 ?_)
  rw [sa] at hP1 hD1
  exact ⟨hP1, hD1, hS1⟩
theorem c_runV {k ci : Nat} {fs : List Value} {T : u_T} {N : Nat} {ret : Option FieldType} (S : Sc G p m c cc nL s args own) (X : Xc G s H locs (ws ++ L)) (hM : Met l y (Ws y bytes maxL ret) (Rc f w mc ms) (va_Pc (.ref b :: As) (Bc G (ws ++ L))) Qc mc ms G.2.2.2.2) (ck : CkV own index y bytes maxL ret n) (hi : L[k]? = some (b, .inr (ci, fs))) (hci : vwCl[ci]? = some (y.cls, T, N)) (hR : f + 1 ≤ Rr.frames ∧ 8 + (maxL + 11) + w ≤ Rr.locals) (hn : As.length = n) (hsz : ls.size = nL) (hst : st = As.reverse ++ .ref b :: rest) (hrest : (rest.map fun v => v.category).sum ≤ 8) (hdg : decode cc pc = .ok (.invokevirtual index, 3)) (hf : cells + mc ≤ Rr.cells ∧ slots + ms ≤ Rr.slots) :
    va_Run p l e Rr s m args below meth c H locs cells slots mc ms (F0 m pc ls st) rest (Qc (Value.ref b :: As).toArray) G.2.2.2.2 := by
  obtain ⟨⟨c1, c2, c3, c4⟩, c5, c6⟩ := ck
  have hts := S.1.2.2.2.2
  have he : (ws ++ L)[ws.length + k]? = some (b, .inr (ci, fs)) := by rw [ga]; exact hi
  exact va_runV S.1 hM ⟨callB_of n hts (good_ws c3) rfl rfl rfl (hts _ c2) (hts _ c1) c4 hR, hts _ c5, hts _ c6⟩ ⟨Bc_blind, va_recv S.2.1 X.1 hci he, fun U hU hW => ⟨rfl, Bc_in S X hU hW⟩⟩ rfl hn hsz hst (lv_room hrest) hdg hf
theorem c_runS {ret : Option FieldType} (S : Sc G p m c cc nL s args own) (X : Xc G s H locs ws) (hM : Met l y (Ws y bytes maxL ret) (Rc f w mc ms) (va_Pc As (Bc G ws)) Qc mc ms G.2.2.2.2) (ck : CkS own index y bytes maxL ret n) (hR : f + 1 ≤ Rr.frames ∧ 8 + (maxL + 11) + w ≤ Rr.locals) (hn : As.length = n) (hsz : ls.size = nL) (hst : st = As.reverse ++ rest) (hrest : (rest.map fun v => v.category).sum ≤ 8) (hdg : decode cc pc = .ok (.invokestatic index, 3)) (hf : cells + mc ≤ Rr.cells ∧ slots + ms ≤ Rr.slots) :
    va_Run p l e Rr s m args below meth c H locs cells slots mc ms (F0 m pc ls st) rest (Qc As.toArray) G.2.2.2.2 := by
  obtain ⟨⟨c1, c2, c3, c4⟩, c5⟩ := ck
  have hts := S.1.2.2.2.2
  exact va_runS S.1 hM ⟨callB_of n hts (good_ws c3) rfl rfl rfl (hts _ c2) (hts _ c1) c4 hR, hts _ c5⟩ ⟨Bc_blind, fun U hU hW => ⟨rfl, Bc_in S X hU hW⟩⟩ rfl hn hsz hst (lv_room hrest) hdg hf
theorem c_i {v0 : Int32} {n : Int} (h : v0.toInt = n) (kk : ∀ v : Int32, v.toInt = n → W p l e Rr s m args below meth c H locs cells slots Q (F0 m pc ls (.int v :: rest))) : W p l e Rr s m args below meth c H locs cells slots Q (F0 m pc ls (.int v0 :: rest)) := kk v0 h
end RCC
def flf (n : Nat) (v : Int32) (f : Nat → Int32) : Nat → Int32 := fun j => if j < n then v else f j
