/-! what the Statement gives of the start -/
abbrev flG : List Cond := flatC (Jvm.Cond.and given_1 narrow_1)
def wst (i : Nat) : Term := .static "OpinionFerry$Word" (wnm.getD i "") "LOpinionFerry$Word;"
def wal : Term := .static "OpinionFerry$Word" "ALL" "[LOpinionFerry$Word;"
def spL : List Int64 := [10197082, 10334396, 1253, 9518, 18379, 393, 1758676, 8276, 1960084, 9592700, 164516, 242911, 11055682, 423, 1111, 10631, 311436, 16922, 4441936, 459818, 125158, 453632, 10990126, 212302449]
theorem st_ex : ∀ i, i < 24 → Cond.exactly (wst i) "OpinionFerry$Word" ∈ flG := by decide +kernel
theorem st_sp : ∀ i, i < 24 → Cond.eq (.field (wst i) "OpinionFerry$Word" "spelling" "J") (.long (spL.getD i 0)) ∈ flG := by decide +kernel
theorem st_el : ∀ i, i < 24 → Cond.eq (.elem wal (.int (Int32.ofNat i))) (wst i) ∈ flG := by decide +kernel
theorem st_ne : ∀ i, i < 24 → ∀ j, j < 24 → i ≠ j → (Cond.not (.eq (wst i) (wst j)) ∈ flG ∨ Cond.not (.eq (wst j) (wst i)) ∈ flG) := by decide +kernel
theorem st_ls : ∀ i, i < 24 → Cond.laysStatic "OpinionFerry$Word" (wnm.getD i "") "LOpinionFerry$Word;" ∈ tables_1 := by decide +kernel
theorem st_nst : ∀ q ∈ nstL, Cond.methodLinkNest q.1 q.2.1 q.2.2.1 q.2.2.2 ∈ tables_1 := by decide +kernel
theorem st_xbl : ∀ w ∈ xbl, w ∈ tables_1 := by decide +kernel
theorem st_en {s : State} {args : Array Value} {A : Nat → Prop} (hF : ∀ c ∈ flG, c.before args s = true) (hts : ∀ w ∈ tables_1, w.before args s = true) (hA : ∀ a : Nat, a < s.heap.size → ¬ A a) : ∃ ad : Nat → Nat, va_En "OpinionFerry$Word" "LOpinionFerry$Word;" wnm [] ad A s s.heap ∧ (∀ i, i < 24 → ∃ x : Int64, va_OF "OpinionFerry$Word" "spelling" "J" (.long x) (ad i) A s s.heap) ∧ ∃ t : Nat, va_Z "OpinionFerry$Word" "ALL" "[LOpinionFerry$Word;" (.ref t) A s s.heap ∧ va_T (.object "OpinionFerry$Word") t 24 (fun j => .ref (ad j)) A s s.heap := by
  obtain ⟨ad, hE, had⟩ := va_Enof2 (args := args) (s := s) (E := "OpinionFerry$Word") (d := "LOpinionFerry$Word;") (nm := wnm) (F := []) (A := A) (fun i hi => hts _ (st_ls i hi)) (hts _ (List.mem_of_getElem? (i := 15) (by decide +kernel))) (fun i hi => hF _ (st_ex i hi)) (fun q hq => nomatch hq) (fun i j hi hj hij => (st_ne i hi j hj hij).elim (fun h => Or.inl (hF _ h)) (fun h => Or.inr (hF _ h))) hA
  refine ⟨ad, hE, fun i hi => ?_, ?_⟩
  · have hv : (Term.field (wst i) "OpinionFerry$Word" "spelling" "J").eval args s none [] s = some (.long (spL.getD i 0)) := va_eqv (hF _ (st_sp i hi)) rfl
    cases hfo : s.fieldFound? "OpinionFerry$Word" "spelling" "J" with
    | none =>
      rw [va_fe (had i hi)] at hv
      simp [State.fieldOf?, State.fieldNamed?, hfo] at hv
    | some x =>
      obtain ⟨cf, k, fi, f⟩ := x
      obtain ⟨g1, cell, g2, g3, -, -, g6⟩ := Term.field_spec hfo (had i hi) hv
      exact ⟨_, cf, k, fi, f, cell, hfo, g1, g2, g3, g6, hA _ (Array.getElem?_eq_some_iff.mp g2).1⟩
  · obtain ⟨t, ht, hT⟩ := va_Tof (tm := wal) (ty := .object "OpinionFerry$Word") (N := 24) (f := fun j => .ref (ad j)) (A := A) (by decide) (hF _ (by decide +kernel)) (va_eqv (hF (Cond.eq (.length wal) (.int 24)) (by decide +kernel)) rfl) (fun j hj => va_eqv (hF _ (st_el j hj)) (had j hj)) hA
    exact ⟨t, va_Zref (hts _ (List.mem_of_getElem? (i := 551) (by decide +kernel))) (hts _ (List.mem_of_getElem? (i := 15) (by decide +kernel))) ht hA, hT⟩
theorem st_K {s : State} {args : Array Value} (hts : ∀ w ∈ tbg, w.before args s = true) : ∃ (D : va_G) (ca : Nat → ClassId), ∀ (ad f : Nat → Nat) (A : Nat → Prop), va_K D vwCl (tysG (D, ca, ad, f, A)) s := by
  obtain ⟨c0, i0, k0⟩ := u_known (C := RX0) (T := TX0) (N := 7) (n := 7) hts inT0 (hts _ (tbm (List.mem_append_right _ (List.mem_of_getElem? (i := 77) (by decide +kernel))) rfl))
  obtain ⟨c1, i1, k1⟩ := u_known (C := RX1) (T := TX1) (N := 8) (n := 8) hts inT1 (hts _ (tbm (List.mem_append_right _ (List.mem_of_getElem? (i := 209) (by decide +kernel))) rfl))
  obtain ⟨c2, i2, k2⟩ := u_known (C := RX2) (T := TX2) (N := 11) (n := 11) hts inT2 (hts _ (tbm (List.mem_append_right _ (List.mem_of_getElem? (i := 86) (by decide +kernel))) rfl))
  obtain ⟨c3, i3, k3⟩ := u_known (C := RX3) (T := TX3) (N := 11) (n := 11) hts inT3 (hts _ (tbm (List.mem_append_right _ (List.mem_of_getElem? (i := 295) (by decide +kernel))) rfl))
  obtain ⟨c4, i4, k4⟩ := u_known (C := RX4) (T := TX4) (N := 5) (n := 5) hts inT4 (hts _ (tbm (List.mem_append_right _ (List.mem_of_getElem? (i := 389) (by decide +kernel))) rfl))
  obtain ⟨c5, i5, k5⟩ := u_known (C := RX5) (T := TX5) (N := 5) (n := 5) hts inT5 (hts _ (tbm (List.mem_append_right _ (List.mem_of_getElem? (i := 245) (by decide +kernel))) rfl))
  obtain ⟨c6, i6, k6⟩ := u_known (C := RX6) (T := TX6) (N := 6) (n := 6) hts inT6 (hts _ (tbm (List.mem_append_right _ (List.mem_of_getElem? (i := 239) (by decide +kernel))) rfl))
  obtain ⟨c7, i7, k7⟩ := u_known (C := RX7) (T := TX7) (N := 9) (n := 9) hts inT7 (hts _ (tbm (List.mem_append_right _ (List.mem_of_getElem? (i := 32) (by decide +kernel))) rfl))
  obtain ⟨c8, i8, k8⟩ := u_known (C := RX10) (T := TX10) (N := 4) (n := 4) hts inT10 (hts _ (tbm (List.mem_append_right _ (List.mem_of_getElem? (i := 287) (by decide +kernel))) rfl))
  obtain ⟨c9, i9, k9⟩ := u_known (C := RX11) (T := TX11) (N := 17) (n := 17) hts inT11 (hts _ (tbm (List.mem_append_right _ (List.mem_of_getElem? (i := 24) (by decide +kernel))) rfl))
  obtain ⟨c10, i10, k10⟩ := u_known (C := RX12) (T := TX12) (N := 50) (n := 50) hts inT12 (hts _ (tbm (List.mem_append_right _ (List.mem_of_getElem? (i := 1259) (by decide +kernel))) rfl))
  obtain ⟨a0, e0, m0, p0, q0, r0⟩ := Cond.arrayClass_spec (hts _ (tbm (List.mem_append_right _ (List.mem_of_getElem? (i := 75) (by decide +kernel))) rfl))
  obtain ⟨a1, e1, m1, p1, q1, r1⟩ := Cond.arrayClass_spec (hts _ (tbm (List.mem_append_right _ (List.mem_of_getElem? (i := 165) (by decide +kernel))) rfl))
  obtain ⟨a2, e2, m2, p2, q2, r2⟩ := Cond.arrayClass_spec (hts _ (tbm (List.mem_append_right _ (List.mem_of_getElem? (i := 410) (by decide +kernel))) rfl))
  obtain ⟨a3, e3, m3, p3, q3, r3⟩ := Cond.arrayClass_spec (hts _ (tbm (List.mem_append_right _ (List.mem_of_getElem? (i := 1445) (by decide +kernel))) rfl))
  obtain ⟨m4, a4, e4, p4, -, q4, r4, w4⟩ := Cond.arrayOver_spec (hts _ (tbm (List.mem_append_right _ (List.mem_of_getElem? (i := 251) (by decide +kernel))) rfl))
  obtain ⟨m5, a5, e5, p5, -, q5, r5, w5⟩ := Cond.arrayOver_spec (hts _ (tbm (List.mem_append_right _ (List.mem_of_getElem? (i := 411) (by decide +kernel))) rfl))
  obtain ⟨m6, a6, e6, p6, -, q6, r6, w6⟩ := Cond.arrayOver_spec (hts _ (tbm (List.mem_append_right _ (List.mem_of_getElem? (i := 412) (by decide +kernel))) rfl))
  refine ⟨(fun k => [c0, c1, c2, c3, c4, c5, c6, c7, c8, c9, c10].getD k c0, fun k => [i0, i1, i2, i3, i4, i5, i6, i7, i8, i9, i10].getD k i0), fun k => [a0, a1, a2, a3, a4, a5, a6].getD k a0, fun ad f A => ⟨?_, ?_⟩⟩
  · intro k q hq
    match k, hq with
    | 0, hq => cases hq; exact k0
    | 1, hq => cases hq; exact k1
    | 2, hq => cases hq; exact k2
    | 3, hq => cases hq; exact k3
    | 4, hq => cases hq; exact k4
    | 5, hq => cases hq; exact k5
    | 6, hq => cases hq; exact k6
    | 7, hq => cases hq; exact k7
    | 8, hq => cases hq; exact k8
    | 9, hq => cases hq; exact k9
    | 10, hq => cases hq; exact k10
    | k + 11, hq => exact absurd (List.getElem?_eq_some_iff.mp hq).1 (by show ¬ k + 11 < 11; omega)
  · intro k q hq
    match k, hq with
    | 0, hq => cases hq; exact ⟨fun n z => ⟨fun k h => (by cases h), e0, q0, m0, r0⟩, p0⟩
    | 1, hq => cases hq; exact ⟨fun n z => ⟨fun k h => (by cases h), e1, q1, m1, r1⟩, p1⟩
    | 2, hq => cases hq; exact ⟨fun n z => ⟨fun k h => (by cases h), e2, q2, m2, r2⟩, p2⟩
    | 3, hq => cases hq; exact ⟨fun n z => ⟨fun k h => (by cases h), e3, q3, m3, r3⟩, p3⟩
    | 4, hq => cases hq; exact ⟨fun n z => ⟨fun k h => (by cases h), e4, q4, m4, r4⟩, e4, m4, q4, r4, p4, w4⟩
    | 5, hq => cases hq; exact ⟨fun n z => ⟨fun k h => (by cases h), e5, q5, m5, r5⟩, e5, m5, q5, r5, p5, w5⟩
    | 6, hq => cases hq; exact ⟨fun n z => ⟨fun k h => (by cases h), e6, q6, m6, r6⟩, e6, m6, q6, r6, p6, w6⟩
    | k + 7, hq => exact absurd (List.getElem?_eq_some_iff.mp hq).1 (by show ¬ k + 7 < 7; omega)
theorem st_all {s : State} {args : Array Value} (hF : ∀ c ∈ flG, c.before args s = true) (hts : ∀ w ∈ lw_tbl, w.before args s = true) : ∃ (D : va_G) (ca : Nat → ClassId) (ad : Nat → Nat), ∀ f : Nat → Nat, va_K D vwCl (tysG (D, ca, ad, f, fun q => s.heap.size ≤ q)) s ∧ EnW (D, ca, ad, f, fun q => s.heap.size ≤ q) s s.heap ∧ Nst s ∧ AOs s ∧ Zs (D, ca, ad, f, fun q => s.heap.size ≤ q) s := by
  have ht1 : ∀ w ∈ tables_1, w.before args s = true := fun w hw => hts w (List.mem_append_right _ hw)
  have ht2 : ∀ w ∈ tbg, w.before args s = true := fun w hw => hts w (List.mem_filter.mp hw).1
  have hA : ∀ a : Nat, a < s.heap.size → ¬ (fun q : Nat => s.heap.size ≤ q) a := fun a h => Nat.not_le.mpr h
  obtain ⟨D, ca, hK⟩ := st_K ht2
  obtain ⟨ad, hE⟩ := st_en hF ht1 hA
  refine ⟨D, ca, ad, fun f => ⟨hK ad f _, hE, fun q hq => va_Nw.of rfl (ht1 _ (st_nst q hq)), ⟨va_AO.of (ht1 _ (List.mem_of_getElem? (i := 251) (by decide +kernel))), va_AO.of (ht1 _ (List.mem_of_getElem? (i := 411) (by decide +kernel))), va_AO.of (ht1 _ (List.mem_of_getElem? (i := 412) (by decide +kernel)))⟩, vx_Zqof (ht1 _ (List.mem_of_getElem? (i := 1186) (by decide +kernel))) (ht1 _ (List.mem_of_getElem? (i := 17) (by decide +kernel))) (hF _ (by decide +kernel)) hA, vx_Zqof (ht1 _ (List.mem_of_getElem? (i := 1188) (by decide +kernel))) (ht1 _ (List.mem_of_getElem? (i := 17) (by decide +kernel))) (hF _ (by decide +kernel)) hA, fun w hw => va_Nw.of (xbl_ot w hw) (ht1 _ (st_xbl w hw))⟩⟩
