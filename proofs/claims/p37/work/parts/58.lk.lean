theorem dummyL : True := trivial
def CkW (own : String) (index : Nat) (y : MethodName) (bytes : ByteArray) (maxL : Nat) (hh : List (Nat × Nat × Nat × Nat)) (n : Nat) : Prop := Cond.methodLink own index y ∈ tbg ∧ Cond.initialized y.cls ∈ tbg ∧ Cond.codeWith y bytes maxL (some .int) hh ∈ tbg ∧ (y.cls ≠ "java/lang/invoke/MethodHandle" ∧ y.cls ≠ "java/lang/invoke/VarHandle" ∧ (parseMethodDescriptor y.desc).map (fun d => d.parameters.length) = some n) ∧ Cond.static y ∈ tbg
theorem good_wc {y : MethodName} {b : ByteArray} {n : Nat} {hh : List (Nat × Nat × Nat × Nat)} (h : Cond.codeWith y b n (some .int) hh ∈ tbg) : GoodIn tbg (Wc y b n hh) := fun w hw => by
  have hm : w ∈ tbg := by
    rcases List.mem_cons.mp hw with rfl | h2
    · exact h
    · exact h2
  exact ⟨hm, good_of_word (tbl_good hm)⟩
theorem q_SW {p : Program} {l : Launch} {e : Env} {Rr : Room} {s : State} {m : MethodId} {args : Array Value} {below : List Frame} {meth : Method} {c : Code} {H : Heap} {locs : List Loc} {cells slots : Nat} {cc : ByteArray} {nL pc : Nat} {ls : Array Slot} {rest st As : List Value} {G : Gx} {own : String} {τ : Tau} {y : MethodName} {bytes : ByteArray} {maxL n index f w : Nat} {hh : List (Nat × Nat × Nat × Nat)} {Qc : Array Value → State → Outcome → State → Prop} (S : Sx G p m c cc nL s args own) (hZ : Zs G s) (X : Xd G s H locs τ) (hM : Met l y (Wc y bytes maxL hh) (Rx f w) (va_Pc As (Bt G τ)) Qc 1 6 G.2.2.2.2) (ck : CkW own index y bytes maxL hh n)
    (hR : f + 1 ≤ Rr.frames ∧ 8 + (maxL + 11) + w ≤ Rr.locals) (hn : As.length = n) (hsz : ls.size = nL) (hst : st = As.reverse ++ rest) (hrest : (rest.map fun v => v.category).sum ≤ 8) (hdg : decode cc pc = .ok (.invokestatic index, 3)) (hf : cells + 1 ≤ Rr.cells ∧ slots + 6 ≤ Rr.slots) :
    va_Run p l e Rr s m args below meth c H locs cells slots 1 6 (F0 m pc ls st) rest (Qc As.toArray) G.2.2.2.2 := by
  obtain ⟨c1, c2, c3, c4, c5⟩ := ck
  have hts := S.1.2.2.2.2
  have hc : Cond.codeWith y bytes maxL (some .int) hh ∈ Wc y bytes maxL hh := List.mem_cons_self
  refine vx_runSW S.1 hM ⟨⟨rfl, rfl, hR.1, hR.2, pay_in hts (good_wc c3), hc⟩, hts _ c3, hts _ c2, ⟨c4.1, c4.2.1⟩, fun sig h => ?_, hts _ c1, hts _ c5⟩ ⟨Bt_blind, fun U hU hW => ⟨rfl, Bt_in S hZ X hU hW⟩⟩ rfl hn hsz hst (lv_room hrest) hdg hf
  have h2 := c4.2.2
  rw [h] at h2
  exact (Option.some.inj h2).symm
theorem r_kl {post : Int32 → Tau → Prop} {p : Program} {l : Launch} {e : Env} {Rr : Room} {s : State} {m : MethodId} {args : Array Value} {below : List Frame} {meth : Method} {c : Code} {H : Heap} {locs : List Loc} {cells slots : Nat} {Q : State → Prop} {pc : Nat} {ls : Array Slot} {rest st : List Value} {G : Gx} {τ : Tau} {a : Array Value} (hr : va_Run p l e Rr s m args below meth c H locs cells slots 1 6 (F0 m pc ls st) rest (va_Qi post (Bs G) G.2.2.2.2 a) G.2.2.2.2) (X : Xd G s H locs τ)
    (kk : ∀ (r : Int32) (u : Tau) (H1 : Heap) (locs1 : List Loc), post r u → Xd G s H1 locs1 u → W p l e Rr s m args below meth c H1 locs1 (cells + 1) (slots + 6) Q (F0 m (pc + 3) ls (.int r :: rest))) : W p l e Rr s m args below meth c H locs cells slots Q (F0 m pc ls st) :=
  va_calli hr X.2 (fun _ _ h => h) (fun _ h => h) (fun r u t H1 locs1 ht hvm hw hB hz1 hk1 hS => kk r u H1 locs1 hw ⟨by rw [← ht]; exact hB.1, hS⟩)
set_option maxRecDepth 1000000 in
theorem ckW_51 : CkW RL 51 yL_man cL_man 5 [(0, 10, 13, 13)] 4 := ⟨(tbm (List.mem_append_right _ (List.mem_of_getElem? (i := 1151) (by decide +kernel))) rfl), (tbm (List.mem_append_right _ (List.mem_of_getElem? (i := 0) (by decide +kernel))) rfl), tbm (List.mem_append_right _ (List.mem_of_getElem? (i := 1153) (by rfl))) rfl, by decide +kernel, (tbm (List.mem_append_right _ (List.mem_of_getElem? (i := 1152) (by decide +kernel))) rfl)⟩
set_option maxRecDepth 1000000 in
theorem ckW_57 : CkW RL 57 yL_thinks cL_thinks 5 [(0, 10, 13, 13)] 4 := ⟨(tbm (List.mem_append_right _ (List.mem_of_getElem? (i := 1220) (by decide +kernel))) rfl), (tbm (List.mem_append_right _ (List.mem_of_getElem? (i := 0) (by decide +kernel))) rfl), tbm (List.mem_append_right _ (List.mem_of_getElem? (i := 1222) (by rfl))) rfl, by decide +kernel, (tbm (List.mem_append_right _ (List.mem_of_getElem? (i := 1221) (by decide +kernel))) rfl)⟩
set_option maxRecDepth 1000000 in
theorem ckW_60 : CkW RL 60 yL_says cL_says 5 [(0, 10, 13, 13)] 4 := ⟨(tbm (List.mem_append_right _ (List.mem_of_getElem? (i := 1227) (by decide +kernel))) rfl), (tbm (List.mem_append_right _ (List.mem_of_getElem? (i := 0) (by decide +kernel))) rfl), tbm (List.mem_append_right _ (List.mem_of_getElem? (i := 1229) (by rfl))) rfl, by decide +kernel, (tbm (List.mem_append_right _ (List.mem_of_getElem? (i := 1228) (by decide +kernel))) rfl)⟩
set_option maxRecDepth 1000000 in
theorem ckW_96 : CkW RL 96 yL_sum cL_sum 4 [(0, 9, 12, 13)] 3 := ⟨(tbm (List.mem_append_right _ (List.mem_of_getElem? (i := 1234) (by decide +kernel))) rfl), (tbm (List.mem_append_right _ (List.mem_of_getElem? (i := 0) (by decide +kernel))) rfl), tbm (List.mem_append_right _ (List.mem_of_getElem? (i := 1236) (by rfl))) rfl, by decide +kernel, (tbm (List.mem_append_right _ (List.mem_of_getElem? (i := 1235) (by decide +kernel))) rfl)⟩
set_option maxRecDepth 1000000 in
theorem ckW_152 : CkW RL 152 yL_jokes cL_jokes 5 [(0, 10, 13, 13)] 4 := ⟨(tbm (List.mem_append_right _ (List.mem_of_getElem? (i := 1241) (by decide +kernel))) rfl), (tbm (List.mem_append_right _ (List.mem_of_getElem? (i := 0) (by decide +kernel))) rfl), tbm (List.mem_append_right _ (List.mem_of_getElem? (i := 1243) (by rfl))) rfl, by decide +kernel, (tbm (List.mem_append_right _ (List.mem_of_getElem? (i := 1242) (by decide +kernel))) rfl)⟩
