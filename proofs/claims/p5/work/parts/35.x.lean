/-! what is thrown, and what a throw needs of the machine -/
abbrev NSE : String := "java/util/NoSuchElementException"
abbrev xnm : List String := ["java/lang/RuntimeException", "java/lang/Exception"]
def xbl : List Cond := [.declares (Bundle.init0 "java/lang/RuntimeException"), .declares (Bundle.init0 "java/lang/Exception"), .declares (Bundle.init0 Bundle.tN), .castable NSE NSE]
theorem xw_bad : ∀ w ∈ (vx_at0 RX11 128 NSE xnm).filter (fun w => !goodWord w), w ∈ xbl := by decide +kernel
theorem xw_good : ∀ w ∈ (vx_at0 RX11 128 NSE xnm).filter goodWord, w ∈ tables_1 := by decide +kernel
theorem xw_ot : ∀ w ∈ vx_at0 RX11 128 NSE xnm, vx_ot w = true := by decide +kernel
def Nx (U : State) : Prop := ∀ w ∈ xbl, va_Nw w U
theorem Nx.warm {s U : State} (hW : s.WarmedH U.vm) (h : Nx s) : Nx U := by
  intro w hw
  have hz := h w hw
  rcases List.mem_cons.mp hw with rfl | hw
  · exact va_Nw.warmD hW hz
  rcases List.mem_cons.mp hw with rfl | hw
  · exact va_Nw.warmD hW hz
  rcases List.mem_cons.mp hw with rfl | hw
  · exact va_Nw.warmD hW hz
  rcases List.mem_cons.mp hw with rfl | hw
  · exact va_Nw.warmC hW hz
  · cases hw
theorem xbl_ot : ∀ w ∈ xbl, w.onTables = true := by decide +kernel
theorem Nx.same {s U : State} (e : s.vm = U.vm) (h : Nx s) : Nx U := fun w hw => va_Nw.same (xbl_ot w hw) e (h w hw)
def Zs (G : Gx) (U : State) : Prop := vx_Zq Bundle.tN "UNASSIGNED_STACK" Bundle.steD G.2.2.2.2 U U.heap ∧ vx_Zq Bundle.tN "SUPPRESSED_SENTINEL" Bundle.listD G.2.2.2.2 U U.heap ∧ Nx U
def Bt (G : Gx) (τ : Tau) (U : State) : Prop := Bs G τ U ∧ Zs G U
theorem Bt_blind {G : Gx} {τ : Tau} {as : List Value} : FrameBlind (va_Pc as (Bt G τ)) := fun a U g mk q => by
  obtain ⟨q0, qB, qU, qS, qN⟩ := q
  obtain ⟨z0, zB⟩ := Bs_blind (G := G) (τ := τ) (as := as) a U g mk ⟨q0, qB⟩
  exact ⟨z0, zB, vx_Zq.moved (u := U) (U := U.calling g mk a) (Vm.Alike.refl U.vm) qU, vx_Zq.moved (u := U) (U := U.calling g mk a) (Vm.Alike.refl U.vm) qS, Nx.same (s := U) (U := U.calling g mk a) rfl qN⟩
theorem Bt_in {G : Gx} {p : Program} {m : MethodId} {c : Code} {cc : ByteArray} {nL : Nat} {s : State} {args : Array Value} {own : String} {H : Heap} {locs : List Loc} {τ : Tau} (S : Sx G p m c cc nL s args own) (hZ : Zs G s) (X : Xd G s H locs τ) {U : State} (hU : U.heap = H) (hW : s.WarmedH U.vm) : Bt G τ U := by
  obtain ⟨h1, h2, h3⟩ := hZ
  refine ⟨Bs_in S X hU hW, ?_, ?_, h3.warm hW⟩
  · rw [hU]; exact (h1.kept X.2.2.1).moved hW.alike
  · rw [hU]; exact (h2.kept X.2.2.1).moved hW.alike
abbrev Rx (f w : Nat) : Room := { frames := f, cells := 1, slots := 6, locals := w }
/-- what holds where a method has thrown -/
def XP (G : Gx) (τ : Tau) : String → State → State → Prop := vx_X (fun u : Tau => u = τ) (fun E u t => E = NSE ∧ ∃ q, q = qof u ∧ va_P G.1 vwCl (wl G u q) t.heap) G.2.2.2.2
def Cx (l : Launch) (G : Gx) (y : MethodName) (cc : ByteArray) (n : Nat) (ret : Option FieldType) (f w : Nat) (as : List Value) (τ : Tau) (post : Int32 → Tau → Prop) : Prop :=
  vx_Met l y (Ws y cc n ret) (Rx f w) (va_Pc as (Bt G τ)) (va_Qi post (Bs G) G.2.2.2.2) (XP G τ) 1 6 G.2.2.2.2
theorem Cx_of {l : Launch} {G : Gx} {y : MethodName} {cc : ByteArray} {n : Nat} {ret : Option FieldType} {f w : Nat} {as : List Value} {τ : Tau} {own : String} {Qc : Array Value → State → Outcome → State → Prop} {XC : String → State → State → Prop} (hy : plainName y.cls = true) (ho : y.cls = own) (hlen : (lg_sl as).length ≤ n)
    (body : ∀ (p : Program) (e : Env) (s : State) (m : MethodId) (below : List Frame) (meth : Method) (c : Code) (ls : Array Slot), Sx G p m c cc n s as.toArray own → meth.sig.returnType = ret → meth.locks = false → Zs G s → (∀ x ∈ c.exceptionTable.toList, False) → Xd G s s.heap [] τ → lv_has ls n (lv_args 0 as) →
      W p l e (Rx f w) s m as.toArray below meth c s.heap [] 0 0 (vx_MQ below Qc XC as.toArray s 1 6 G.2.2.2.2) (F0 m 0 ls [])) :
    vx_Met l y (Ws y cc n ret) (Rx f w) (va_Pc as (Bt G τ)) Qc XC 1 6 G.2.2.2.2 := by
  subst ho
  refine vx_ofW (cc := cc) (maxL := n) (ret := ret) hy rfl ?_
  intro p e s m args below meth c s₁ B hml ht hv
  obtain ⟨rfl, ⟨hP, hK, hD, hE⟩, hZ⟩ := hv
  have hts := atoms_spec (ws := Ws y cc n ret) B.pre
  have hown : s.vm.findClass y.cls = some m.cls := findClass_of_methodNamed B.named
  rw [lg_entry_eq]
  exact body p e s m below meth c _ ⟨⟨B.exec, B.bytes, hml, hown, fun w h => hts w (List.mem_cons_of_mem _ h)⟩, hK, hD, hE⟩ B.returns B.notSynchronized hZ ht ⟨hP, va_S.rf⟩ (lv_entry as hlen)
section RX
variable {p : Program} {l : Launch} {e : Env} {Rr : Room} {s : State} {m : MethodId} {args : Array Value} {below : List Frame} {meth : Method} {c : Code} {H : Heap} {locs : List Loc} {cells slots : Nat} {Q : State → Prop}
variable {cc : ByteArray} {nL pc : Nat} {ls : Array Slot} {rest st As : List Value} {G : Gx} {own : String} {τ : Tau}
theorem w_widen {g : JFrame} {k n : Nat} (h1 : cells ≤ k) (h2 : slots ≤ n) (kk : W p l e Rr s m args below meth c H locs k n Q g) : W p l e Rr s m args below meth c H locs cells slots Q g := fun T hT X => kk T hT (stand_widen X h1 h2)
theorem r_xret {post : Int32 → Tau → Prop} {v : Int32} {ty : FieldType} {XC : String → State → State → Prop} (S : Sx G p m c cc nL s args own) (hr : meth.sig.returnType = some ty) (hlk : meth.locks = false) (X : Xd G s H locs τ) (hp : post v τ) (hn : narrow ty (.int v) = .int v) (hdg : decode cc pc = .ok (.ireturn, 1)) :
    W p l e Rr s m args below meth c H locs 0 0 (vx_MQ below (va_Qi post (Bs G) G.2.2.2.2) XC args s 1 6 G.2.2.2.2) (F0 m pc ls [.int v]) :=
  vx_ret (w_widen (k := 1) (n := 6) (by decide) (by decide) (W.zret (v := v) S.1.1 S.1.2.1 hr hn (fun t ht hW => ⟨⟨v, τ, rfl, hp, Bs_in S X ht hW⟩, X.2.F ht⟩) X.2.2.2 hdg hlk))
theorem r_throw {Qc : Array Value → State → Outcome → State → Prop} (S : Sx G p m c cc nL s args RX11) (hl : l.stackTraces = false) (hZ : Zs G s) (X : Xd G s H locs τ) (hlk : meth.locks = false) (hout : ∀ x ∈ c.exceptionTable.toList, False) (hk : Cond.classLink RX11 126 NSE ∈ tbg) (hini : Cond.initialized NSE ∈ tbg) (hsz : ls.size = nL)
    (d0 : decode cc pc = .ok (.new 126, 3)) (d3 : decode cc (pc + 3) = .ok (.dup, 1)) (d4 : decode cc (pc + 4) = .ok (.invokespecial 128, 3)) (d7 : decode cc (pc + 7) = .ok (.athrow, 1)) (hRf : 5 < Rr.frames) (hRl : (rest.map fun v => v.category).sum + 81 ≤ Rr.locals) (hRc : 0 + 1 ≤ Rr.cells) (hRs : 0 + 6 ≤ Rr.slots) :
    W p l e Rr s m args below meth c H locs 0 0 (vx_MQ below Qc (XP G τ) args s 1 6 G.2.2.2.2) (F0 m pc ls rest) := by
  obtain ⟨⟨hx, hb, hml, hown, hts⟩, hK, hD, hE⟩ := S
  refine vx_throw0 (names := xnm) hx hb hl hown (by decide) (by decide) (hts _ hk) (hts _ hini) (vx_hat (B := xbl) (fun w hw => hts w (tbm (List.mem_append_right _ (xw_good w hw)) (List.mem_filter.mp hw).2)) xw_bad (fun w hw => va_Nw.use (xbl_ot w hw) (hZ.2.2 w hw))) (fun w hw => ?_) hZ.1 hZ.2.1 X.2 (hsz.trans hml.symm) d0 d3 d4 d7 (fun x hx9 => (hout x hx9).elim) hRf hRl hRc hRs hlk (fun t ht hsz9 heq => ?_) X.2.2.2 (Nat.le_refl _) (Nat.le_refl _)
  · rcases List.mem_cons.mp hw with rfl | hw
    · unfold vx_ot; rw [tbl_good hk, Bool.or_true]
    · rcases List.mem_cons.mp hw with rfl | hw
      · unfold vx_ot; rw [tbl_good hini, Bool.or_true]
      · exact xw_ot w hw
  · obtain ⟨q, hq, hP⟩ := X.1
    refine ⟨τ, rfl, ⟨rfl, q, hq, hP.kept (fun k z hz => heq z.1 (hP k z hz).lt)⟩, Nat.le_trans X.2.1 hsz9, fun q9 h1 h2 => ?_⟩
    rw [heq q9 (Nat.lt_of_lt_of_le h1 X.2.1)]; exact X.2.2.1 q9 h1 h2
end RX
