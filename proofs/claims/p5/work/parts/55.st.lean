/-! what the Statement gives of the start -/
abbrev flG : List Cond := flatC (Jvm.Cond.and given_1 narrow_1)
def wst (i : Nat) : Term := .static "OpinionFerry$Word" (wnm.getD i "") "LOpinionFerry$Word;"
def wal : Term := .static "OpinionFerry$Word" "ALL" "[LOpinionFerry$Word;"
def pEx : List Nat := [4, 7, 11, 45, 51, 58, 66, 75, 85, 96, 108, 121, 135, 355, 330, 150, 166, 183, 201, 220, 240, 261, 283, 306]
def pSp : List Nat := [6, 9, 13, 47, 53, 60, 68, 77, 87, 98, 110, 123, 137, 357, 332, 152, 168, 185, 203, 222, 242, 263, 285, 308]
def pEl : List Nat := [21, 22, 23, 24, 25, 26, 27, 28, 29, 30, 31, 32, 33, 34, 35, 36, 37, 38, 39, 40, 41, 42, 43, 44]
def pNe : List Nat := [0, 10, 14, 48, 54, 61, 69, 78, 88, 99, 111, 124, 138, 358, 333, 153, 169, 186, 204, 223, 243, 264, 286, 309, 10, 0, 15, 49, 55, 62, 70, 79, 89, 100, 112, 125, 139, 359, 334, 154, 170, 187, 205, 224, 244, 265, 287, 310, 14, 15, 0, 50, 56, 63, 71, 80, 90, 101, 113, 126, 140, 360, 335, 155, 171, 188, 206, 225, 245, 266, 288, 311, 48, 49, 50, 0, 57, 64, 72, 81, 91, 102, 114, 127, 141, 361, 336, 156, 172, 189, 207, 226, 246, 267, 289, 312, 54, 55, 56, 57, 0, 65, 73, 82, 92, 103, 115, 128, 142, 362, 337, 157, 173, 190, 208, 227, 247, 268, 290, 313, 61, 62, 63, 64, 65, 0, 74, 83, 93, 104, 116, 129, 143, 363, 338, 158, 174, 191, 209, 228, 248, 269, 291, 314, 69, 70, 71, 72, 73, 74, 0, 84, 94, 105, 117, 130, 144, 364, 339, 159, 175, 192, 210, 229, 249, 270, 292, 315, 78, 79, 80, 81, 82, 83, 84, 0, 95, 106, 118, 131, 145, 365, 340, 160, 176, 193, 211, 230, 250, 271, 293, 316, 88, 89, 90, 91, 92, 93, 94, 95, 0, 107, 119, 132, 146, 366, 341, 161, 177, 194, 212, 231, 251, 272, 294, 317, 99, 100, 101, 102, 103, 104, 105, 106, 107, 0, 120, 133, 147, 367, 342, 162, 178, 195, 213, 232, 252, 273, 295, 318, 111, 112, 113, 114, 115, 116, 117, 118, 119, 120, 0, 134, 148, 368, 343, 163, 179, 196, 214, 233, 253, 274, 296, 319, 124, 125, 126, 127, 128, 129, 130, 131, 132, 133, 134, 0, 149, 369, 344, 164, 180, 197, 215, 234, 254, 275, 297, 320, 138, 139, 140, 141, 142, 143, 144, 145, 146, 147, 148, 149, 0, 370, 345, 165, 181, 198, 216, 235, 255, 276, 298, 321, 358, 359, 360, 361, 362, 363, 364, 365, 366, 367, 368, 369, 370, 0, 380, 371, 372, 373, 374, 375, 376, 377, 378, 379, 333, 334, 335, 336, 337, 338, 339, 340, 341, 342, 343, 344, 345, 380, 0, 346, 347, 348, 349, 350, 351, 352, 353, 354, 153, 154, 155, 156, 157, 158, 159, 160, 161, 162, 163, 164, 165, 371, 346, 0, 182, 199, 217, 236, 256, 277, 299, 322, 169, 170, 171, 172, 173, 174, 175, 176, 177, 178, 179, 180, 181, 372, 347, 182, 0, 200, 218, 237, 257, 278, 300, 323, 186, 187, 188, 189, 190, 191, 192, 193, 194, 195, 196, 197, 198, 373, 348, 199, 200, 0, 219, 238, 258, 279, 301, 324, 204, 205, 206, 207, 208, 209, 210, 211, 212, 213, 214, 215, 216, 374, 349, 217, 218, 219, 0, 239, 259, 280, 302, 325, 223, 224, 225, 226, 227, 228, 229, 230, 231, 232, 233, 234, 235, 375, 350, 236, 237, 238, 239, 0, 260, 281, 303, 326, 243, 244, 245, 246, 247, 248, 249, 250, 251, 252, 253, 254, 255, 376, 351, 256, 257, 258, 259, 260, 0, 282, 304, 327, 264, 265, 266, 267, 268, 269, 270, 271, 272, 273, 274, 275, 276, 377, 352, 277, 278, 279, 280, 281, 282, 0, 305, 328, 286, 287, 288, 289, 290, 291, 292, 293, 294, 295, 296, 297, 298, 378, 353, 299, 300, 301, 302, 303, 304, 305, 0, 329, 309, 310, 311, 312, 313, 314, 315, 316, 317, 318, 319, 320, 321, 379, 354, 322, 323, 324, 325, 326, 327, 328, 329, 0]
def pLs : List Nat := [507, 532, 538, 561, 589, 592, 594, 607, 954, 957, 959, 993, 995, 1093, 1091, 1041, 1044, 1046, 1048, 1050, 1058, 1060, 1062, 1064]
theorem st_ex0 : ∀ i, i < 24 → flG[pEx.getD i 0]? = some (Cond.exactly (wst i) "OpinionFerry$Word") := by decide +kernel
theorem st_sp0 : ∀ i, i < 24 → flG[pSp.getD i 0]? = some (Cond.eq (.field (wst i) "OpinionFerry$Word" "spelling" "J") (.long (spL.getD i 0))) := by decide +kernel
theorem st_el0 : ∀ i, i < 24 → flG[pEl.getD i 0]? = some (Cond.eq (.elem wal (.int (Int32.ofNat i))) (wst i)) := by decide +kernel
theorem st_ne0 : ∀ i, i < 24 → ∀ j, j < 24 → i ≠ j → (flG[pNe.getD (24 * i + j) 0]? = some (Cond.not (.eq (wst i) (wst j))) ∨ flG[pNe.getD (24 * i + j) 0]? = some (Cond.not (.eq (wst j) (wst i)))) := by decide +kernel
theorem st_lay0 : ∀ i, i < 24 → tables_1[pLs.getD i 0]? = some (Cond.laysStatic "OpinionFerry$Word" (wnm.getD i "") "LOpinionFerry$Word;") := by decide +kernel
theorem st_ex (i : Nat) (hi : i < 24) : Cond.exactly (wst i) "OpinionFerry$Word" ∈ flG := List.mem_of_getElem? (st_ex0 i hi)
theorem st_sp (i : Nat) (hi : i < 24) : Cond.eq (.field (wst i) "OpinionFerry$Word" "spelling" "J") (.long (spL.getD i 0)) ∈ flG := List.mem_of_getElem? (st_sp0 i hi)
theorem st_el (i : Nat) (hi : i < 24) : Cond.eq (.elem wal (.int (Int32.ofNat i))) (wst i) ∈ flG := List.mem_of_getElem? (st_el0 i hi)
theorem st_ne (i : Nat) (hi : i < 24) (j : Nat) (hj : j < 24) (h : i ≠ j) : Cond.not (.eq (wst i) (wst j)) ∈ flG ∨ Cond.not (.eq (wst j) (wst i)) ∈ flG := (st_ne0 i hi j hj h).elim (fun q => Or.inl (List.mem_of_getElem? q)) (fun q => Or.inr (List.mem_of_getElem? q))
theorem st_lay (i : Nat) (hi : i < 24) : Cond.laysStatic "OpinionFerry$Word" (wnm.getD i "") "LOpinionFerry$Word;" ∈ tables_1 := List.mem_of_getElem? (st_lay0 i hi)
theorem st_nst : ∀ q ∈ nstL, Cond.methodLinkNest q.1 q.2.1 q.2.2.1 q.2.2.2 ∈ tables_1 := by decide +kernel
theorem st_xbl : ∀ w ∈ xbl, w ∈ tables_1 := by decide +kernel
theorem st_en {s : State} {args : Array Value} {A : Nat → Prop} (hF : ∀ c ∈ flG, c.before args s = true) (hts : ∀ w ∈ tables_1, w.before args s = true) (hA : ∀ a : Nat, a < s.heap.size → ¬ A a) : ∃ ad : Nat → Nat, va_En "OpinionFerry$Word" "LOpinionFerry$Word;" wnm [] ad A s s.heap ∧ (∀ i, i < 24 → va_OF "OpinionFerry$Word" "spelling" "J" (.long (spL.getD i 0)) (ad i) A s s.heap) ∧ ∃ t : Nat, va_Z "OpinionFerry$Word" "ALL" "[LOpinionFerry$Word;" (.ref t) A s s.heap ∧ va_T (.object "OpinionFerry$Word") t 24 (fun j => .ref (ad j)) A s s.heap := by
  obtain ⟨ad, hE, had⟩ := va_Enof2 (args := args) (s := s) (E := "OpinionFerry$Word") (d := "LOpinionFerry$Word;") (nm := wnm) (F := []) (A := A) (fun i hi => hts _ (st_lay i hi)) (hts _ (List.mem_of_getElem? (i := 15) (by decide +kernel))) (fun i hi => hF _ (st_ex i hi)) (fun q hq => nomatch hq) (fun i j hi hj hij => (st_ne i hi j hj hij).elim (fun h => Or.inl (hF _ h)) (fun h => Or.inr (hF _ h))) hA
  refine ⟨ad, hE, fun i hi => ?_, ?_⟩
  · have hv : (Term.field (.static "OpinionFerry$Word" (wnm.getD i "") "LOpinionFerry$Word;") "OpinionFerry$Word" "spelling" "J").eval args s none [] s = some (.long (spL.getD i 0)) := va_eqv (hF _ (st_sp i hi)) rfl
    cases hfo : s.fieldFound? "OpinionFerry$Word" "spelling" "J" with
    | none =>
      rw [va_fe (had i hi)] at hv
      simp [State.fieldOf?, State.fieldNamed?, hfo] at hv
    | some x =>
      obtain ⟨cf, k, fi, f⟩ := x
      obtain ⟨g1, cell, g2, g3, -, -, g6⟩ := Term.field_spec hfo (had i hi) hv
      exact ⟨cf, k, fi, f, cell, hfo, g1, g2, g3, g6, hA _ (Array.getElem?_eq_some_iff.mp g2).1⟩
  · obtain ⟨t, ht, hT⟩ := va_Tof (tm := wal) (ty := .object "OpinionFerry$Word") (N := 24) (f := fun j => .ref (ad j)) (A := A) (by decide) (hF _ (by decide +kernel)) (va_eqv (hF (Cond.eq (.length wal) (.int 24)) (by decide +kernel)) rfl) (fun j hj => va_eqv (hF _ (st_el j hj)) (had j hj)) hA
    exact ⟨t, va_Zref (hts _ (List.mem_of_getElem? (i := 551) (by decide +kernel))) (hts _ (List.mem_of_getElem? (i := 15) (by decide +kernel))) ht hA, hT⟩
theorem st_K {s : State} {args : Array Value} (hts : ∀ w ∈ tbg, w.before args s = true) (ht1 : ∀ w ∈ tables_1, w.before args s = true) : ∃ (D : va_G) (ca : Nat → ClassId), ∀ (ad f : Nat → Nat) (A : Nat → Prop), va_K D vwCl (tysG (D, ca, ad, f, A)) s := by
  obtain ⟨c0, i0, k0⟩ := u_known (C := RX0) (T := TX0) (N := 7) (n := 7) hts inT0 (hts _ (tbm (List.mem_append_right _ (List.mem_of_getElem? (i := 77) (by decide +kernel))) rfl))
  obtain ⟨c1, i1, k1⟩ := u_known (C := RX1) (T := TX1) (N := 8) (n := 8) hts inT1 (hts _ (tbm (List.mem_append_right _ (List.mem_of_getElem? (i := 209) (by decide +kernel))) rfl))
  obtain ⟨c2, i2, k2⟩ := u_known (C := RX2) (T := TX2) (N := 11) (n := 11) hts inT2 (hts _ (tbm (List.mem_append_right _ (List.mem_of_getElem? (i := 86) (by decide +kernel))) rfl))
  obtain ⟨c3, i3, k3⟩ := u_known (C := RX3) (T := TX3) (N := 11) (n := 11) hts inT3 (hts _ (tbm (List.mem_append_right _ (List.mem_of_getElem? (i := 295) (by decide +kernel))) rfl))
  obtain ⟨c4, i4, k4⟩ := u_known (C := RX4) (T := TX4) (N := 5) (n := 5) hts inT4 (hts _ (tbm (List.mem_append_right _ (List.mem_of_getElem? (i := 389) (by decide +kernel))) rfl))
  obtain ⟨c5, i5, k5⟩ := u_known (C := RX5) (T := TX5) (N := 5) (n := 5) hts inT5 (hts _ (tbm (List.mem_append_right _ (List.mem_of_getElem? (i := 245) (by decide +kernel))) rfl))
  obtain ⟨c6, i6, k6⟩ := u_known (C := RX6) (T := TX6) (N := 6) (n := 6) hts inT6 (hts _ (tbm (List.mem_append_right _ (List.mem_of_getElem? (i := 239) (by decide +kernel))) rfl))
  obtain ⟨c7, i7, k7⟩ := u_known (C := RX7) (T := TX7) (N := 9) (n := 9) hts inT7 (hts _ (tbm (List.mem_append_right _ (List.mem_of_getElem? (i := 32) (by decide +kernel))) rfl))
  obtain ⟨c8, i8, k8⟩ := u_known (C := RX10) (T := TX10) (N := 4) (n := 4) hts inT10 (hts _ (tbm (List.mem_append_right _ (List.mem_of_getElem? (i := 287) (by decide +kernel))) rfl))
  obtain ⟨c9, i9, k9⟩ := u_known (C := RX11) (T := TX11) (N := 17) (n := 17) hts inT11 (hts _ (tbm (List.mem_append_right _ (List.mem_of_getElem? (i := 24) (by decide +kernel))) rfl))
  obtain ⟨c10, i10, k10⟩ := u_known (C := RX12) (T := TX12) (N := 50) (n := 50) hts inT12 (hts _ (tbm (List.mem_append_right _ (List.mem_of_getElem? (i := 1259) (by decide +kernel))) rfl))
  obtain ⟨a0, e0, m0, p0, q0, r0⟩ := Cond.arrayClass_spec (hts (Cond.arrayClass .int) (tbm (List.mem_append_right _ (List.mem_of_getElem? (i := 75) (by decide +kernel))) rfl))
  obtain ⟨a1, e1, m1, p1, q1, r1⟩ := Cond.arrayClass_spec (hts (Cond.arrayClass .long) (tbm (List.mem_append_right _ (List.mem_of_getElem? (i := 165) (by decide +kernel))) rfl))
  obtain ⟨a2, e2, m2, p2, q2, r2⟩ := Cond.arrayClass_spec (hts (Cond.arrayClass .boolean) (tbm (List.mem_append_right _ (List.mem_of_getElem? (i := 410) (by decide +kernel))) rfl))
  obtain ⟨a3, e3, m3, p3, q3, r3⟩ := Cond.arrayClass_spec (hts (Cond.arrayClass .byte) (tbm (List.mem_append_right _ (List.mem_of_getElem? (i := 1445) (by decide +kernel))) rfl))
  obtain ⟨m4, a4, e4, p4, -, q4, r4, w4⟩ := Cond.arrayOver_spec (ht1 (Cond.arrayOver (.object "OpinionFerry$Word")) (List.mem_of_getElem? (i := 251) (by decide +kernel)))
  obtain ⟨m5, a5, e5, p5, -, q5, r5, w5⟩ := Cond.arrayOver_spec (ht1 (Cond.arrayOver (.object "OpinionFerry$Scene")) (List.mem_of_getElem? (i := 411) (by decide +kernel)))
  obtain ⟨m6, a6, e6, p6, -, q6, r6, w6⟩ := Cond.arrayOver_spec (ht1 (Cond.arrayOver (.object "OpinionFerry$World")) (List.mem_of_getElem? (i := 412) (by decide +kernel)))
  refine ⟨(fun k => [c0, c1, c2, c3, c4, c5, c6, c7, c8, c9, c10].getD k c0, fun k => [i0, i1, i2, i3, i4, i5, i6, i7, i8, i9, i10].getD k i0), fun k => [a0, a1, a2, a3, a4, a5, a6].getD k a0, fun ad f A => ⟨?_, ?_⟩⟩
  · intro k q hq
    match k, hq with
    | 0, hq => cases hq; exact k0
    | 1, hq => cases hq; exact k1
    | 2, hq => cases hq; exact k2
    | 3, hq => cases hq; exact k3
    | 4, hq => cases hq; exact k4
    | 5, hq => cases hq; exact k5
    | 6, hq => cases hq; exact k6
    | 7, hq => cases hq; exact k7
    | 8, hq => cases hq; exact k8
    | 9, hq => cases hq; exact k9
    | 10, hq => cases hq; exact k10
    | k + 11, hq => exact absurd (List.getElem?_eq_some_iff.mp hq).1 (by show ¬ k + 11 < 11; omega)
  · intro k q hq
    match k, hq with
    | 0, hq => cases hq; exact ⟨fun n z => ⟨fun k h => (by cases h), e0, q0, m0, r0⟩, p0⟩
    | 1, hq => cases hq; exact ⟨fun n z => ⟨fun k h => (by cases h), e1, q1, m1, r1⟩, p1⟩
    | 2, hq => cases hq; exact ⟨fun n z => ⟨fun k h => (by cases h), e2, q2, m2, r2⟩, p2⟩
    | 3, hq => cases hq; exact ⟨fun n z => ⟨fun k h => (by cases h), e3, q3, m3, r3⟩, p3⟩
    | 4, hq => cases hq; exact ⟨fun n z => ⟨fun k h => (by cases h), e4, q4, m4, r4⟩, e4, m4, q4, r4, p4, w4⟩
    | 5, hq => cases hq; exact ⟨fun n z => ⟨fun k h => (by cases h), e5, q5, m5, r5⟩, e5, m5, q5, r5, p5, w5⟩
    | 6, hq => cases hq; exact ⟨fun n z => ⟨fun k h => (by cases h), e6, q6, m6, r6⟩, e6, m6, q6, r6, p6, w6⟩
    | k + 7, hq => exact absurd (List.getElem?_eq_some_iff.mp hq).1 (by show ¬ k + 7 < 7; omega)
theorem st_all {s : State} {args : Array Value} (hF : ∀ c ∈ flG, c.before args s = true) (hts : ∀ w ∈ lw_tbl, w.before args s = true) : ∃ (D : va_G) (ca : Nat → ClassId) (ad : Nat → Nat), ∀ f : Nat → Nat, va_K D vwCl (tysG (D, ca, ad, f, fun q => s.heap.size ≤ q)) s ∧ EnW (D, ca, ad, f, fun q => s.heap.size ≤ q) s s.heap ∧ Nst s ∧ AOs s ∧ Zs (D, ca, ad, f, fun q => s.heap.size ≤ q) s := by
  have ht1 : ∀ w ∈ tables_1, w.before args s = true := fun w hw => hts w (List.mem_append_right _ hw)
  have ht2 : ∀ w ∈ tbg, w.before args s = true := fun w hw => hts w (List.mem_filter.mp hw).1
  have hA : ∀ a : Nat, a < s.heap.size → ¬ (fun q : Nat => s.heap.size ≤ q) a := fun a h => Nat.not_le.mpr h
  obtain ⟨D, ca, hK⟩ := st_K ht2 ht1
  obtain ⟨ad, hE⟩ := st_en hF ht1 hA
  refine ⟨D, ca, ad, fun f => ⟨hK ad f _, hE, fun q hq => va_Nw.of rfl (ht1 _ (st_nst q hq)), ⟨va_AO.of (ht1 _ (List.mem_of_getElem? (i := 251) (by decide +kernel))), va_AO.of (ht1 _ (List.mem_of_getElem? (i := 411) (by decide +kernel))), va_AO.of (ht1 _ (List.mem_of_getElem? (i := 412) (by decide +kernel)))⟩, vx_Zqof (ht1 _ (List.mem_of_getElem? (i := 1186) (by decide +kernel))) (ht1 _ (List.mem_of_getElem? (i := 17) (by decide +kernel))) (hF _ (by decide +kernel)) hA, vx_Zqof (ht1 _ (List.mem_of_getElem? (i := 1188) (by decide +kernel))) (ht1 _ (List.mem_of_getElem? (i := 17) (by decide +kernel))) (hF _ (by decide +kernel)) hA, fun w hw => va_Nw.of (xbl_ot w hw) (ht1 _ (st_xbl w hw))⟩⟩
