/-! the law's own wrappers: the call, and its throw caught -/
abbrev Wc (y : MethodName) (cc : ByteArray) (n : Nat) (hh : List (Nat × Nat × Nat × Nat)) : List Cond := .codeWith y cc n (some .int) hh :: tbg
def Cl (l : Launch) (G : Gx) (y : MethodName) (cc : ByteArray) (n : Nat) (hh : List (Nat × Nat × Nat × Nat)) (f w : Nat) (as : List Value) (τ : Tau) : Prop :=
  Met l y (Wc y cc n hh) (Rx f w) (va_Pc as (Bt G τ)) (va_Qi (fun _ u => u = τ) (Bs G) G.2.2.2.2) 1 6 G.2.2.2.2
theorem Cl_of {l : Launch} {G : Gx} {y : MethodName} {cc : ByteArray} {n : Nat} {hh : List (Nat × Nat × Nat × Nat)} {f w : Nat} {as : List Value} {τ : Tau} {own : String} {Qc : Array Value → State → Outcome → State → Prop} (hy : plainName y.cls = true) (ho : y.cls = own) (hlen : (lg_sl as).length ≤ n)
    (body : ∀ (p : Program) (e : Env) (s : State) (m : MethodId) (below : List Frame) (meth : Method) (c : Code) (ls : Array Slot), Sx G p m c cc n s as.toArray own → meth.sig.returnType = some .int → meth.locks = false → Zs G s → c.exceptionTable.toList = tableOf hh → Xd G s s.heap [] τ → lv_has ls n (lv_args 0 as) →
      W p l e (Rx f w) s m as.toArray below meth c s.heap [] 0 0 (MQ below Qc as.toArray s 1 6 G.2.2.2.2) (F0 m 0 ls [])) :
    Met l y (Wc y cc n hh) (Rx f w) (va_Pc as (Bt G τ)) Qc 1 6 G.2.2.2.2 := by
  subst ho
  refine MetFree.of_bodyS (code := cc) (maxLocals := n) (ret := some .int) hy ?_ ?_
  · intro args s m h hn
    obtain ⟨m9, meth, c, hn9, h1, h2, h3, h4, -, h5, h6, -⟩ := Cond.codeWith_spec (atoms_spec (ws := Wc y cc n hh) h _ List.mem_cons_self)
    cases hn.symm.trans hn9
    exact ⟨meth, c, h1, h2, h3, h4, h5, h6⟩
  · intro p e s m args below meth c s₁ B hml hv _
    obtain ⟨rfl, ⟨hP, hK, hD, hE⟩, hZ⟩ := hv
    have hts := atoms_spec (ws := Wc y cc n hh) B.pre
    have hown : s.vm.findClass y.cls = some m.cls := findClass_of_methodNamed B.named
    have hh0 : s₁.heap = s.heap := by rw [B.state]; rfl
    have htab := vx_table (x := y) B (hts _ List.mem_cons_self)
    have K := body p e s m below meth c _ ⟨⟨B.exec, B.bytes, hml, hown, fun w h => hts w (List.mem_cons_of_mem _ h)⟩, hK, hD, hE⟩ B.returns B.notSynchronized hZ htab ⟨hP, va_S.rf⟩ (lv_entry as hlen)
    rw [← lg_entry_eq] at K
    obtain ⟨t, a1, o, b1, b2, b3⟩ := K s₁ hh0 (Stand.of_body B)
    exact ⟨t, o, a1, b1, b2, b3⟩
section RXW
variable {p : Program} {l : Launch} {e : Env} {Rr : Room} {s : State} {m : MethodId} {args : Array Value} {below : List Frame} {meth : Method} {c : Code} {H : Heap} {locs : List Loc} {cells slots : Nat} {Q : State → Prop}
variable {cc : ByteArray} {nL pc : Nat} {ls : Array Slot} {rest st As : List Value} {G : Gx} {own : String} {τ : Tau}
variable {y : MethodName} {bytes : ByteArray} {maxL n index f w k K ci : Nat} {ret : Option FieldType} {Qc : Array Value → State → Outcome → State → Prop} {XC : String → State → State → Prop}
theorem q_VX (S : Sx G p m c cc nL s args own) (hZ : Zs G s) (X : Xd G s H locs τ) (hM : vx_Met l y (Ws y bytes maxL ret) (Rx f w) (va_Pc (.ref (G.2.2.2.1 k) :: As) (Bt G τ)) Qc XC 1 6 G.2.2.2.2) (ck : CkV own index y bytes maxL ret n) (hk : k < NC) (hkd : kd k = K) (hs : ∀ q, ∃ fs, (shL G k (τ k) q)[K]? = some (.inr (ci, fs))) (hci : ∃ T N, vwCl[ci]? = some (y.cls, T, N))
    (hR : f + 1 ≤ Rr.frames ∧ 8 + (maxL + 11) + w ≤ Rr.locals) (hn : As.length = n) (hsz : ls.size = nL) (hst : st = As.reverse ++ .ref (G.2.2.2.1 k) :: rest) (hrest : (rest.map fun v => v.category).sum ≤ 8) (hdg : decode cc pc = .ok (.invokevirtual index, 3)) (hf : cells + 1 ≤ Rr.cells ∧ slots + 6 ≤ Rr.slots) :
    vx_Run p l e Rr s m args below meth c H locs cells slots 1 6 (F0 m pc ls st) rest (Qc (Value.ref (G.2.2.2.1 k) :: As).toArray) XC G.2.2.2.2 := by
  obtain ⟨⟨c1, c2, c3, c4⟩, c5, c6⟩ := ck
  have hts := S.1.2.2.2.2
  obtain ⟨q, hq, hP⟩ := X.1
  obtain ⟨fs, h1⟩ := hs (q k)
  obtain ⟨T, N, hci⟩ := hci
  have hw : (wl G τ q)[k]? = some (G.2.2.2.1 k, .inr (ci, fs)) := by rw [wl_at hk, sh_of hkd h1]
  exact vx_runV S.1 hM ⟨callB_of n hts (good_ws c3) rfl rfl rfl (hts _ c2) (hts _ c1) c4 hR, hts _ c5, hts _ c6⟩ ⟨Bt_blind, va_recv S.2.1 hP hci hw, fun U hU hW => ⟨rfl, Bt_in S hZ X hU hW⟩⟩ rfl hn hsz hst (lv_room hrest) hdg hf
theorem r_kx {post : Int32 → Tau → Prop} {a : Array Value} (hr : vx_Run p l e Rr s m args below meth c H locs cells slots 1 6 (F0 m pc ls st) rest (va_Qi post (Bs G) G.2.2.2.2 a) (XP G τ) G.2.2.2.2) (X : Xd G s H locs τ)
    (kx : ∀ (ce : Cell) (q9 : Addr) (H1 : Heap) (locs1 : List Loc), Xd G s H1 locs1 τ → H1[q9]? = some ce → ce.vm = .none → s.vm.findClass NSE = some ce.cls → vx_W p l e Rr s m args below meth c H1 locs1 (cells + 1) (slots + 6) Q (F0 m pc ls rest) q9)
    (kk : ∀ (r : Int32) (u : Tau) (H1 : Heap) (locs1 : List Loc), post r u → Xd G s H1 locs1 u → W p l e Rr s m args below meth c H1 locs1 (cells + 1) (slots + 6) Q (F0 m (pc + 3) ls (.int r :: rest))) : W p l e Rr s m args below meth c H locs cells slots Q (F0 m pc ls st) := by
  refine vx_calli hr X.2 (fun _ _ h => h) (fun _ h => h) (fun _ _ h => h) (fun E ce q9 u t H1 locs1 ht hvm hp hb hz hk hS h1 h2 h3 => ?_) (fun r u t H1 locs1 ht hvm hw hB hz1 hk1 hS => kk r u H1 locs1 hw ⟨by rw [← ht]; exact hB.1, hS⟩)
  subst hp
  obtain ⟨rfl, hP⟩ := hb
  exact kx ce q9 H1 locs1 ⟨by rw [← ht]; exact hP, hS⟩ h1 h2 h3
theorem r_lret {post : Int32 → Tau → Prop} {v : Int32} (S : Sx G p m c cc nL s args own) (hr : meth.sig.returnType = some .int) (hlk : meth.locks = false) (X : Xd G s H locs τ) (hp : post v τ) (hdg : decode cc pc = .ok (.ireturn, 1)) :
    W p l e Rr s m args below meth c H locs cells slots (MQ below (va_Qi post (Bs G) G.2.2.2.2) args s cells slots G.2.2.2.2) (F0 m pc ls [.int v]) :=
  W.zret (v := v) S.1.1 S.1.2.1 hr rfl (fun t ht hW => ⟨⟨v, τ, rfl, hp, Bs_in S X ht hW⟩, X.2.F ht⟩) X.2.2.2 hdg hlk
end RXW
