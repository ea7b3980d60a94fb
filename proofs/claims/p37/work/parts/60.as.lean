/-! the first numbers of both systems -/
def tf0 : Nat → Int32 := fun j => ([0, 0, 0, 0, 0, 0, 0, 0, 0, 0, 0, 0, 0, -101, -101] : List Int32).getD j 0
def tf1 : Nat → Int32 := fun _ => 0
def tf2 : Nat → Int32 := fun j => ([4] : List Int32).getD j 0
def tf3 : Nat → Int32 := flf 10 (-1) (fun _ => 0)
def tf4 : Nat → Int32 := flf 10 (0) (fun _ => 0)
def tf5 : Nat → Int32 := flf 90 (0) (fun _ => 0)
def tf6 : Nat → Int32 := fun j => ([0, 0, 0, 0, 0, 0, 0, 0, -1] : List Int32).getD j 0
def tf7 : Nat → Int32 := flf 4 (-1) (fun _ => 0)
def tf8 : Nat → Int32 := fun j => ([0, 0, 0, 0, 0, 0, 0, 0, 0, 0, 0, 0, 0, 0, 0, 0, 0, 0, 0, 0, 0, 0, 0, 0, 0, 0, 0, 0, 0, 0, 0, 0, 0, -1] : List Int32).getD j 0
def tf9 : Nat → Int32 := upd (fun _ => 0) 2 4
def tauL : List (Nat → Int32) := [tf0, tf1, tf1, tf1, tf2, tf1, tf3, tf4, tf5, tf1, tf1, tf1, tf1, tf1, tf1, tf1, tf1, tf1, tf1, tf1, tf1, tf1, tf1, tf2, tf1, tf3, tf4, tf5, tf1, tf1, tf6, tf1, tf1, tf1, tf1, tf1, tf1, tf1, tf1, tf1, tf6, tf1, tf1, tf1, tf1, tf1, tf1, tf1, tf1, tf1, tf1, tf1, tf6, tf1, tf1, tf1, tf1, tf6, tf1, tf1, tf1, tf1, tf6, tf1, tf1, tf1, tf1, tf6, tf1, tf1, tf1, tf1, tf6, tf1, tf1, tf1, tf1, tf6, tf1, tf1, tf1, tf1, tf6, tf1, tf1, tf1, tf1, tf6, tf1, tf1, tf1, tf1, tf1, tf1, tf2, tf1, tf3, tf4, tf5, tf1, tf1, tf6, tf1, tf1, tf1, tf1, tf1, tf1, tf1, tf1, tf1, tf1, tf2, tf1, tf3, tf4, tf5, tf1, tf1, tf6, tf1, tf1, tf1, tf1, tf1, tf1, tf1, tf1, tf1, tf3, tf7, tf8, tf1, tf9, tf1, tf1, tf1, tf1, tf1, tf1, tf1, tf1, tf1, tf1, tf1, tf1, tf1, tf1, tf1, tf1, tf1, tf1, tf1, tf1]
def tau0 : Tau := fun k => tauL.getD k (fun _ => 0)
theorem z_tf0 : ∀ j, 100 ≤ j → tf0 j = 0 := fun j hj => by show ([0, 0, 0, 0, 0, 0, 0, 0, 0, 0, 0, 0, 0, -101, -101] : List Int32).getD j 0 = 0; rw [List.getD_eq_getElem?_getD, List.getElem?_eq_none (by show 15 ≤ j; omega)]; rfl
theorem z_tf1 : ∀ j, 100 ≤ j → tf1 j = 0 := fun _ _ => rfl
theorem z_tf2 : ∀ j, 100 ≤ j → tf2 j = 0 := fun j hj => by show ([4] : List Int32).getD j 0 = 0; rw [List.getD_eq_getElem?_getD, List.getElem?_eq_none (by show 1 ≤ j; omega)]; rfl
theorem z_tf3 : ∀ j, 100 ≤ j → tf3 j = 0 := fun j hj => by unfold tf3 flf; rw [if_neg (by omega)]
theorem z_tf4 : ∀ j, 100 ≤ j → tf4 j = 0 := fun j hj => by unfold tf4 flf; rw [if_neg (by omega)]
theorem z_tf5 : ∀ j, 100 ≤ j → tf5 j = 0 := fun j hj => by unfold tf5 flf; rw [if_neg (by omega)]
theorem z_tf6 : ∀ j, 100 ≤ j → tf6 j = 0 := fun j hj => by show ([0, 0, 0, 0, 0, 0, 0, 0, -1] : List Int32).getD j 0 = 0; rw [List.getD_eq_getElem?_getD, List.getElem?_eq_none (by show 9 ≤ j; omega)]; rfl
theorem z_tf7 : ∀ j, 100 ≤ j → tf7 j = 0 := fun j hj => by unfold tf7 flf; rw [if_neg (by omega)]
theorem z_tf8 : ∀ j, 100 ≤ j → tf8 j = 0 := fun j hj => by show ([0, 0, 0, 0, 0, 0, 0, 0, 0, 0, 0, 0, 0, 0, 0, 0, 0, 0, 0, 0, 0, 0, 0, 0, 0, 0, 0, 0, 0, 0, 0, 0, 0, -1] : List Int32).getD j 0 = 0; rw [List.getD_eq_getElem?_getD, List.getElem?_eq_none (by show 34 ≤ j; omega)]; rfl
theorem z_tf9 : ∀ j, 100 ≤ j → tf9 j = 0 := fun j hj => by unfold tf9 upd; rw [if_neg (by omega)]
theorem z_all : ∀ f ∈ tauL, ∀ j, 100 ≤ j → f j = 0 := by
  unfold tauL
  intro f hf
  simp only [List.mem_cons, List.not_mem_nil, or_false] at hf
  rcases hf with rfl | rfl | rfl | rfl | rfl | rfl | rfl | rfl | rfl | rfl | rfl | rfl | rfl | rfl | rfl | rfl | rfl | rfl | rfl | rfl | rfl | rfl | rfl | rfl | rfl | rfl | rfl | rfl | rfl | rfl | rfl | rfl | rfl | rfl | rfl | rfl | rfl | rfl | rfl | rfl | rfl | rfl | rfl | rfl | rfl | rfl | rfl | rfl | rfl | rfl | rfl | rfl | rfl | rfl | rfl | rfl | rfl | rfl | rfl | rfl | rfl | rfl | rfl | rfl | rfl | rfl | rfl | rfl | rfl | rfl | rfl | rfl | rfl | rfl | rfl | rfl | rfl | rfl | rfl | rfl | rfl | rfl | rfl | rfl | rfl | rfl | rfl | rfl | rfl | rfl | rfl | rfl | rfl | rfl | rfl | rfl | rfl | rfl | rfl | rfl | rfl | rfl | rfl | rfl | rfl | rfl | rfl | rfl | rfl | rfl | rfl | rfl | rfl | rfl | rfl | rfl | rfl | rfl | rfl | rfl | rfl | rfl | rfl | rfl | rfl | rfl | rfl | rfl | rfl | rfl | rfl | rfl | rfl | rfl | rfl | rfl | rfl | rfl | rfl | rfl | rfl | rfl | rfl | rfl | rfl | rfl | rfl | rfl | rfl | rfl | rfl | rfl | rfl | rfl
  · exact z_tf0
  · exact z_tf1
  · exact z_tf1
  · exact z_tf1
  · exact z_tf2
  · exact z_tf1
  · exact z_tf3
  · exact z_tf4
  · exact z_tf5
  · exact z_tf1
  · exact z_tf1
  · exact z_tf1
  · exact z_tf1
  · exact z_tf1
  · exact z_tf1
  · exact z_tf1
  · exact z_tf1
  · exact z_tf1
  · exact z_tf1
  · exact z_tf1
  · exact z_tf1
  · exact z_tf1
  · exact z_tf1
  · exact z_tf2
  · exact z_tf1
  · exact z_tf3
  · exact z_tf4
  · exact z_tf5
  · exact z_tf1
  · exact z_tf1
  · exact z_tf6
  · exact z_tf1
  · exact z_tf1
  · exact z_tf1
  · exact z_tf1
  · exact z_tf1
  · exact z_tf1
  · exact z_tf1
  · exact z_tf1
  · exact z_tf1
  · exact z_tf6
  · exact z_tf1
  · exact z_tf1
  · exact z_tf1
  · exact z_tf1
  · exact z_tf1
  · exact z_tf1
  · exact z_tf1
  · exact z_tf1
  · exact z_tf1
  · exact z_tf1
  · exact z_tf1
  · exact z_tf6
  · exact z_tf1
  · exact z_tf1
  · exact z_tf1
  · exact z_tf1
  · exact z_tf6
  · exact z_tf1
  · exact z_tf1
  · exact z_tf1
  · exact z_tf1
  · exact z_tf6
  · exact z_tf1
  · exact z_tf1
  · exact z_tf1
  · exact z_tf1
  · exact z_tf6
  · exact z_tf1
  · exact z_tf1
  · exact z_tf1
  · exact z_tf1
  · exact z_tf6
  · exact z_tf1
  · exact z_tf1
  · exact z_tf1
  · exact z_tf1
  · exact z_tf6
  · exact z_tf1
  · exact z_tf1
  · exact z_tf1
  · exact z_tf1
  · exact z_tf6
  · exact z_tf1
  · exact z_tf1
  · exact z_tf1
  · exact z_tf1
  · exact z_tf6
  · exact z_tf1
  · exact z_tf1
  · exact z_tf1
  · exact z_tf1
  · exact z_tf1
  · exact z_tf1
  · exact z_tf2
  · exact z_tf1
  · exact z_tf3
  · exact z_tf4
  · exact z_tf5
  · exact z_tf1
  · exact z_tf1
  · exact z_tf6
  · exact z_tf1
  · exact z_tf1
  · exact z_tf1
  · exact z_tf1
  · exact z_tf1
  · exact z_tf1
  · exact z_tf1
  · exact z_tf1
  · exact z_tf1
  · exact z_tf1
  · exact z_tf2
  · exact z_tf1
  · exact z_tf3
  · exact z_tf4
  · exact z_tf5
  · exact z_tf1
  · exact z_tf1
  · exact z_tf6
  · exact z_tf1
  · exact z_tf1
  · exact z_tf1
  · exact z_tf1
  · exact z_tf1
  · exact z_tf1
  · exact z_tf1
  · exact z_tf1
  · exact z_tf1
  · exact z_tf3
  · exact z_tf7
  · exact z_tf8
  · exact z_tf1
  · exact z_tf9
  · exact z_tf1
  · exact z_tf1
  · exact z_tf1
  · exact z_tf1
  · exact z_tf1
  · exact z_tf1
  · exact z_tf1
  · exact z_tf1
  · exact z_tf1
  · exact z_tf1
  · exact z_tf1
  · exact z_tf1
  · exact z_tf1
  · exact z_tf1
  · exact z_tf1
  · exact z_tf1
  · exact z_tf1
  · exact z_tf1
  · exact z_tf1
  · exact z_tf1
def zok (K : Nat) : Bool := (rgL.getD K ([], (-2147483648, 2147483647))).1.all (fun q => decide (q.2.1 ≤ 0 ∧ 0 ≤ q.2.2)) && decide ((rgL.getD K ([], (-2147483648, 2147483647))).2.1 ≤ 0 ∧ 0 ≤ (rgL.getD K ([], (-2147483648, 2147483647))).2.2)
theorem rgs_z {l : List (Nat × Int × Int)} {d : Int × Int} (h : l.all (fun q => decide (q.2.1 ≤ 0 ∧ 0 ≤ q.2.2)) = true) (hd : d.1 ≤ 0 ∧ 0 ≤ d.2) (j : Nat) : (rgs l d j).1 ≤ 0 ∧ 0 ≤ (rgs l d j).2 := by
  induction l with
  | nil => exact hd
  | cons q l ih =>
    rw [List.all_cons, Bool.and_eq_true] at h
    obtain ⟨n, r⟩ := q
    unfold rgs
    split
    · exact of_decide_eq_true h.1
    · exact ih h.2
theorem zok_use {K : Nat} (h : zok K = true) (j : Nat) : Rg K j 0 := by
  unfold zok at h
  rw [Bool.and_eq_true] at h
  have := rgs_z h.1 (of_decide_eq_true h.2) j
  exact this
theorem tau_zok : ∀ a, a < NC → zok (kd a) = true := by decide +kernel
theorem tau_in : ∀ a, a < NC → ∀ b, b < 100 → Rg (kd a) b (tau0 a b) := by decide +kernel
theorem tau_inv : Inv tau0 := by
  intro a b
  by_cases ha : a < NC
  · by_cases hb : b < 100
    · exact tau_in a ha b hb
    · have hm : tau0 a ∈ tauL := by
        unfold tau0
        have hl : a < tauL.length := ha
        rw [List.getD_eq_getElem?_getD, List.getElem?_eq_getElem hl]
        exact List.getElem_mem hl
      rw [z_all _ hm b (by omega)]
      exact zok_use (tau_zok a ha) b
  · have e1 : kd a = 99 := by
      unfold kd
      rw [List.getD_eq_getElem?_getD, List.getElem?_eq_none (show NC ≤ a from Nat.le_of_not_lt ha)]; rfl
    rw [e1]
    exact R_any _
theorem tau_jj : JJ tau0 := by
  refine ⟨tau_inv, ?_, ?_, ?_, ?_, ?_, ?_, ?_, ?_, ?_, ?_⟩
  · intro h; exact absurd h (by decide)
  · exact HI_0 (x := 0) rfl rfl
  · exact ⟨fun h => absurd h (by decide), fun h => absurd h (by decide)⟩
  · intro j
    show LB 0 0 0
    exact LB_mk ⟨by decide, by decide, by decide, by decide⟩
  · intro j h; exact absurd h (by show ¬ ((0 : Int32).toInt = 5 ∨ (0 : Int32).toInt = 6); decide)
  · intro j h; exact absurd h (by show ¬ ((0 : Int32).toInt = 5 ∨ (0 : Int32).toInt = 6); decide)
  · intro j h; exact absurd h (by show ¬ ((0 : Int32).toInt = 5 ∨ (0 : Int32).toInt = 6); decide)
  · intro j h; exact absurd h (by show ¬ ((0 : Int32).toInt = 5 ∨ (0 : Int32).toInt = 6); decide)
  · exact PF_0 rfl
  · exact ⟨⟨by decide, by decide, fun i hi => absurd hi (by show ¬ ((i : Int) < 0); omega)⟩, ⟨by decide, by decide, fun i hi => absurd hi (by show ¬ ((i : Int) < 0); omega)⟩⟩
abbrev adr (L : List Nat) : Nat → Nat := fun k => L.getD k 0
set_option maxHeartbeats 40000000 in
set_option maxRecDepth 1000000 in
theorem as_P (D : va_G) (ca : Nat → ClassId) (ad : Nat → Nat) (A : Nat → Prop) (w0 w1 w2 w3 w4 w5 w6 w7 w8 w9 w10 w11 w12 w13 w14 w15 w16 w17 w18 w19 w20 w21 w22 w23 w24 w25 w26 w27 w28 w29 w30 w31 w32 w33 w34 w35 w36 w37 w38 w39 w40 w41 w42 w43 w44 w45 w46 w47 w48 w49 w50 w51 w52 w53 w54 w55 w56 w57 w58 w59 w60 w61 w62 w63 w64 w65 w66 w67 w68 w69 w70 w71 w72 w73 w74 w75 w76 w77 w78 w79 w80 w81 w82 w83 w84 w85 w86 w87 w88 w89 w90 w91 w92 w93 w94 w95 w96 w97 w98 w99 w100 w101 w102 w103 w104 w105 w106 w107 w108 w109 w110 w111 w112 w113 w114 w115 w116 w117 w118 w119 w120 w121 w122 w123 w124 w125 w126 w127 w128 w129 w130 w131 w132 w133 w134 w135 w136 w137 w138 w139 w140 w141 w142 w143 w144 w145 w146 w147 w148 w149 w150 w151 w152 w153 : Nat) (g131_g231 : Nat → Int64) : wl (D, ca, ad, adr [w0, w1, w2, w3, w4, w5, w6, w7, w8, w9, w10, w11, w12, w13, w14, w15, w16, w17, w18, w19, w20, w21, w22, w23, w24, w25, w26, w27, w28, w29, w30, w31, w32, w33, w34, w35, w36, w37, w38, w39, w40, w41, w42, w43, w44, w45, w46, w47, w48, w49, w50, w51, w52, w53, w54, w55, w56, w57, w58, w59, w60, w61, w62, w63, w64, w65, w66, w67, w68, w69, w70, w71, w72, w73, w74, w75, w76, w77, w78, w79, w80, w81, w82, w83, w84, w85, w86, w87, w88, w89, w90, w91, w92, w93, w94, w95, w96, w97, w98, w99, w100, w101, w102, w103, w104, w105, w106, w107, w108, w109, w110, w111, w112, w113, w114, w115, w116, w117, w118, w119, w120, w121, w122, w123, w124, w125, w126, w127, w128, w129, w130, w131, w132, w133, w134, w135, w136, w137, w138, w139, w140, w141, w142, w143, w144, w145, w146, w147, w148, w149, w150, w151, w152, w153], A) tau0 (qu (fun _ _ => 0) 137 g131_g231) = [(w0, .inr (9, [.ref w1, .ref w3, .ref w11, .ref w16, .ref w22, .ref w40, .ref w45, .ref w51, .int 0, .int 0, .ref w92, .int 0, .int 0, .int (-101), .int (-101), .ref w129, .ref w130])), (w1, .inr (7, [.ref w2, .int 0, .int 0, .int 0, .int 0, .int 0, .long 0, .int 0, .int 0])), (w2, .inl (ca 0, 940, .inl fun _ => 0)), (w3, .inr (0, [.ref w1, .int 0, .int 0, .ref w4, .int 0, .int 0, .int 0])), (w4, .inr (2, [.int (4), .int (0), .int (0), .int (0), .int (0), .ref w5, .ref w6, .ref w7, .ref w8, .ref w9, .ref w10])), (w5, .inl (ca 0, 10, .inl fun _ => 0)), (w6, .inl (ca 0, 10, .inl (flf 10 (-1) (fun _ => 0)))), (w7, .inl (ca 0, 10, .inl (flf 10 (0) (fun _ => 0)))), (w8, .inl (ca 0, 90, .inl (flf 90 (0) (fun _ => 0)))), (w9, .inl (ca 1, 9, .inr (.inl fun _ => 0))), (w10, .inl (ca 1, 10, .inr (.inl fun _ => 0))), (w11, .inr (1, [.ref w1, .int 0, .int 0, .int 0, .ref w12, .ref w13, .ref w14, .ref w15])), (w12, .inl (ca 0, 40, .inl fun _ => 0)), (w13, .inl (ca 0, 40, .inl fun _ => 0)), (w14, .inl (ca 0, 40, .inl fun _ => 0)), (w15, .inl (ca 0, 40, .inl fun _ => 0)), (w16, .inr (6, [.ref w1, .int 0, .int 0, .ref w17, .int 0, .null])), (w17, .inr (5, [.ref w18, .ref w19, .ref w20, .ref w21, .int 0])), (w18, .inl (ca 4, 40, .inr (.inr (.inr (.inr fun _ => none))))), (w19, .inl (ca 0, 40, .inl fun _ => 0)), (w20, .inl (ca 0, 40, .inl fun _ => 0)), (w21, .inl (ca 0, 40, .inl fun _ => 0)), (w22, .inr (8, [.ref w23, .ref w30, .ref w35, .int 0])), (w23, .inr (2, [.int (4), .int (0), .int (0), .int (0), .int (0), .ref w24, .ref w25, .ref w26, .ref w27, .ref w28, .ref w29])), (w24, .inl (ca 0, 10, .inl fun _ => 0)), (w25, .inl (ca 0, 10, .inl (flf 10 (-1) (fun _ => 0)))), (w26, .inl (ca 0, 10, .inl (flf 10 (0) (fun _ => 0)))), (w27, .inl (ca 0, 90, .inl (flf 90 (0) (fun _ => 0)))), (w28, .inl (ca 1, 9, .inr (.inl fun _ => 0))), (w29, .inl (ca 1, 10, .inr (.inl fun _ => 0))), (w30, .inr (3, [.ref w31, .ref w32, .ref w33, .ref w34, .int 0, .int 0, .int 0, .int 0, .int (-1), .int 0, .int 0])), (w31, .inl (ca 0, 90, .inl fun _ => 0)), (w32, .inl (ca 0, 90, .inl fun _ => 0)), (w33, .inl (ca 0, 10, .inl fun _ => 0)), (w34, .inl (ca 0, 10, .inl fun _ => 0)), (w35, .inr (5, [.ref w36, .ref w37, .ref w38, .ref w39, .int 0])), (w36, .inl (ca 4, 40, .inr (.inr (.inr (.inr fun _ => none))))), (w37, .inl (ca 0, 40, .inl fun _ => 0)), (w38, .inl (ca 0, 40, .inl fun _ => 0)), (w39, .inl (ca 0, 40, .inl fun _ => 0)), (w40, .inr (3, [.ref w41, .ref w42, .ref w43, .ref w44, .int 0, .int 0, .int 0, .int 0, .int (-1), .int 0, .int 0])), (w41, .inl (ca 0, 90, .inl fun _ => 0)), (w42, .inl (ca 0, 90, .inl fun _ => 0)), (w43, .inl (ca 0, 10, .inl fun _ => 0)), (w44, .inl (ca 0, 10, .inl fun _ => 0)), (w45, .inr (4, [.ref w46, .ref w47, .ref w48, .ref w49, .ref w50])), (w46, .inl (ca 0, 1024, .inl fun _ => 0)), (w47, .inl (ca 2, 1024, .inl fun _ => 0)), (w48, .inl (ca 2, 1024, .inl fun _ => 0)), (w49, .inl (ca 0, 2048, .inl fun _ => 0)), (w50, .inl (ca 0, 2048, .inl fun _ => 0)), (w51, .inl (ca 5, 8, .inr (.inr (.inr (.inr fun j => some (adr [w0, w1, w2, w3, w4, w5, w6, w7, w8, w9, w10, w11, w12, w13, w14, w15, w16, w17, w18, w19, w20, w21, w22, w23, w24, w25, w26, w27, w28, w29, w30, w31, w32, w33, w34, w35, w36, w37, w38, w39, w40, w41, w42, w43, w44, w45, w46, w47, w48, w49, w50, w51, w52, w53, w54, w55, w56, w57, w58, w59, w60, w61, w62, w63, w64, w65, w66, w67, w68, w69, w70, w71, w72, w73, w74, w75, w76, w77, w78, w79, w80, w81, w82, w83, w84, w85, w86, w87, w88, w89, w90, w91, w92, w93, w94, w95, w96, w97, w98, w99, w100, w101, w102, w103, w104, w105, w106, w107, w108, w109, w110, w111, w112, w113, w114, w115, w116, w117, w118, w119, w120, w121, w122, w123, w124, w125, w126, w127, w128, w129, w130, w131, w132, w133, w134, w135, w136, w137, w138, w139, w140, w141, w142, w143, w144, w145, w146, w147, w148, w149, w150, w151, w152, w153] (52 + 5 * j))))))), (w52, .inr (3, [.ref w53, .ref w54, .ref w55, .ref w56, .int 0, .int 0, .int 0, .int 0, .int (-1), .int 0, .int 0])), (w53, .inl (ca 0, 90, .inl fun _ => 0)), (w54, .inl (ca 0, 90, .inl fun _ => 0)), (w55, .inl (ca 0, 10, .inl fun _ => 0)), (w56, .inl (ca 0, 10, .inl fun _ => 0)), (w57, .inr (3, [.ref w58, .ref w59, .ref w60, .ref w61, .int 0, .int 0, .int 0, .int 0, .int (-1), .int 0, .int 0])), (w58, .inl (ca 0, 90, .inl fun _ => 0)), (w59, .inl (ca 0, 90, .inl fun _ => 0)), (w60, .inl (ca 0, 10, .inl fun _ => 0)), (w61, .inl (ca 0, 10, .inl fun _ => 0)), (w62, .inr (3, [.ref w63, .ref w64, .ref w65, .ref w66, .int 0, .int 0, .int 0, .int 0, .int (-1), .int 0, .int 0])), (w63, .inl (ca 0, 90, .inl fun _ => 0)), (w64, .inl (ca 0, 90, .inl fun _ => 0)), (w65, .inl (ca 0, 10, .inl fun _ => 0)), (w66, .inl (ca 0, 10, .inl fun _ => 0)), (w67, .inr (3, [.ref w68, .ref w69, .ref w70, .ref w71, .int 0, .int 0, .int 0, .int 0, .int (-1), .int 0, .int 0])), (w68, .inl (ca 0, 90, .inl fun _ => 0)), (w69, .inl (ca 0, 90, .inl fun _ => 0)), (w70, .inl (ca 0, 10, .inl fun _ => 0)), (w71, .inl (ca 0, 10, .inl fun _ => 0)), (w72, .inr (3, [.ref w73, .ref w74, .ref w75, .ref w76, .int 0, .int 0, .int 0, .int 0, .int (-1), .int 0, .int 0])), (w73, .inl (ca 0, 90, .inl fun _ => 0)), (w74, .inl (ca 0, 90, .inl fun _ => 0)), (w75, .inl (ca 0, 10, .inl fun _ => 0)), (w76, .inl (ca 0, 10, .inl fun _ => 0)), (w77, .inr (3, [.ref w78, .ref w79, .ref w80, .ref w81, .int 0, .int 0, .int 0, .int 0, .int (-1), .int 0, .int 0])), (w78, .inl (ca 0, 90, .inl fun _ => 0)), (w79, .inl (ca 0, 90, .inl fun _ => 0)), (w80, .inl (ca 0, 10, .inl fun _ => 0)), (w81, .inl (ca 0, 10, .inl fun _ => 0)), (w82, .inr (3, [.ref w83, .ref w84, .ref w85, .ref w86, .int 0, .int 0, .int 0, .int 0, .int (-1), .int 0, .int 0])), (w83, .inl (ca 0, 90, .inl fun _ => 0)), (w84, .inl (ca 0, 90, .inl fun _ => 0)), (w85, .inl (ca 0, 10, .inl fun _ => 0)), (w86, .inl (ca 0, 10, .inl fun _ => 0)), (w87, .inr (3, [.ref w88, .ref w89, .ref w90, .ref w91, .int 0, .int 0, .int 0, .int 0, .int (-1), .int 0, .int 0])), (w88, .inl (ca 0, 90, .inl fun _ => 0)), (w89, .inl (ca 0, 90, .inl fun _ => 0)), (w90, .inl (ca 0, 10, .inl fun _ => 0)), (w91, .inl (ca 0, 10, .inl fun _ => 0)), (w92, .inl (ca 6, 2, .inr (.inr (.inr (.inr fun j => some (adr [w0, w1, w2, w3, w4, w5, w6, w7, w8, w9, w10, w11, w12, w13, w14, w15, w16, w17, w18, w19, w20, w21, w22, w23, w24, w25, w26, w27, w28, w29, w30, w31, w32, w33, w34, w35, w36, w37, w38, w39, w40, w41, w42, w43, w44, w45, w46, w47, w48, w49, w50, w51, w52, w53, w54, w55, w56, w57, w58, w59, w60, w61, w62, w63, w64, w65, w66, w67, w68, w69, w70, w71, w72, w73, w74, w75, w76, w77, w78, w79, w80, w81, w82, w83, w84, w85, w86, w87, w88, w89, w90, w91, w92, w93, w94, w95, w96, w97, w98, w99, w100, w101, w102, w103, w104, w105, w106, w107, w108, w109, w110, w111, w112, w113, w114, w115, w116, w117, w118, w119, w120, w121, w122, w123, w124, w125, w126, w127, w128, w129, w130, w131, w132, w133, w134, w135, w136, w137, w138, w139, w140, w141, w142, w143, w144, w145, w146, w147, w148, w149, w150, w151, w152, w153] (93 + 18 * j))))))), (w93, .inr (8, [.ref w94, .ref w101, .ref w106, .int 0])), (w94, .inr (2, [.int (4), .int (0), .int (0), .int (0), .int (0), .ref w95, .ref w96, .ref w97, .ref w98, .ref w99, .ref w100])), (w95, .inl (ca 0, 10, .inl fun _ => 0)), (w96, .inl (ca 0, 10, .inl (flf 10 (-1) (fun _ => 0)))), (w97, .inl (ca 0, 10, .inl (flf 10 (0) (fun _ => 0)))), (w98, .inl (ca 0, 90, .inl (flf 90 (0) (fun _ => 0)))), (w99, .inl (ca 1, 9, .inr (.inl fun _ => 0))), (w100, .inl (ca 1, 10, .inr (.inl fun _ => 0))), (w101, .inr (3, [.ref w102, .ref w103, .ref w104, .ref w105, .int 0, .int 0, .int 0, .int 0, .int (-1), .int 0, .int 0])), (w102, .inl (ca 0, 90, .inl fun _ => 0)), (w103, .inl (ca 0, 90, .inl fun _ => 0)), (w104, .inl (ca 0, 10, .inl fun _ => 0)), (w105, .inl (ca 0, 10, .inl fun _ => 0)), (w106, .inr (5, [.ref w107, .ref w108, .ref w109, .ref w110, .int 0])), (w107, .inl (ca 4, 40, .inr (.inr (.inr (.inr fun _ => none))))), (w108, .inl (ca 0, 40, .inl fun _ => 0)), (w109, .inl (ca 0, 40, .inl fun _ => 0)), (w110, .inl (ca 0, 40, .inl fun _ => 0)), (w111, .inr (8, [.ref w112, .ref w119, .ref w124, .int 0])), (w112, .inr (2, [.int (4), .int (0), .int (0), .int (0), .int (0), .ref w113, .ref w114, .ref w115, .ref w116, .ref w117, .ref w118])), (w113, .inl (ca 0, 10, .inl fun _ => 0)), (w114, .inl (ca 0, 10, .inl (flf 10 (-1) (fun _ => 0)))), (w115, .inl (ca 0, 10, .inl (flf 10 (0) (fun _ => 0)))), (w116, .inl (ca 0, 90, .inl (flf 90 (0) (fun _ => 0)))), (w117, .inl (ca 1, 9, .inr (.inl fun _ => 0))), (w118, .inl (ca 1, 10, .inr (.inl fun _ => 0))), (w119, .inr (3, [.ref w120, .ref w121, .ref w122, .ref w123, .int 0, .int 0, .int 0, .int 0, .int (-1), .int 0, .int 0])), (w120, .inl (ca 0, 90, .inl fun _ => 0)), (w121, .inl (ca 0, 90, .inl fun _ => 0)), (w122, .inl (ca 0, 10, .inl fun _ => 0)), (w123, .inl (ca 0, 10, .inl fun _ => 0)), (w124, .inr (5, [.ref w125, .ref w126, .ref w127, .ref w128, .int 0])), (w125, .inl (ca 4, 40, .inr (.inr (.inr (.inr fun _ => none))))), (w126, .inl (ca 0, 40, .inl fun _ => 0)), (w127, .inl (ca 0, 40, .inl fun _ => 0)), (w128, .inl (ca 0, 40, .inl fun _ => 0)), (w129, .inl (ca 0, 10, .inl (flf 10 (-1) (fun _ => 0)))), (w130, .inl (ca 0, 4, .inl (flf 4 (-1) (fun _ => 0)))), (w131, .inr (10, [.int 0, .ref w132, .int 0, .int 0, .int 0, .int 0, .ref w133, .ref w134, .ref w135, .ref w136, .ref w137, .int 0, .int 0, .int 0, .int 0, .int 0, .int 0, .long 0, .int 0, .int 0, .int 0, .int 0, .ref w138, .ref w139, .int 0, .ref w140, .ref w141, .ref w142, .int 0, .int 0, .int 0, .ref w143, .ref w144, .int (-1), .ref w145, .ref w146, .int 0, .int 0, .ref w147, .int 0, .ref w148, .int 0, .int 0, .int 0, .int 0, .int 0, .ref w149, .ref w150, .ref w151, .ref w152])), (w132, .inl (ca 3, 940, .inl fun _ => 0)), (w133, .inl (ca 0, 513, .inl (upd (fun _ => 0) 2 4))), (w134, .inl (ca 0, 125, .inl fun _ => 0)), (w135, .inl (ca 0, 160, .inl fun _ => 0)), (w136, .inl (ca 1, 38, .inr (.inl fun _ => 0))), (w137, .inl (ca 1, 24, .inr (.inl g131_g231))), (w138, .inl (ca 0, 1656, .inl fun _ => 0)), (w139, .inl (ca 0, 207, .inl fun _ => 0)), (w140, .inl (ca 0, 2048, .inl fun _ => 0)), (w141, .inl (ca 0, 2048, .inl fun _ => 0)), (w142, .inl (ca 2, 1024, .inl fun _ => 0)), (w143, .inl (ca 0, 1024, .inl fun _ => 0)), (w144, .inl (ca 0, 10, .inl fun _ => 0)), (w145, .inl (ca 0, 221, .inl fun _ => 0)), (w146, .inl (ca 0, 221, .inl fun _ => 0)), (w147, .inl (ca 0, 4, .inl fun _ => 0)), (w148, .inl (ca 0, 45, .inl fun _ => 0)), (w149, .inl (ca 2, 45, .inl fun _ => 0)), (w150, .inl (ca 0, 1026, .inl fun _ => 0)), (w151, .inl (ca 1, 38, .inr (.inl fun _ => 0))), (w152, .inl (ca 2, 2, .inl fun _ => 0)), (w153, .inl (ca 1, 1, .inr (.inl fun _ => 0)))] := rfl
theorem tau_far {k : Nat} (h : 154 ≤ k) (j : Nat) : tau0 k j = 0 := by
  unfold tau0
  rw [List.getD_eq_getElem?_getD, List.getElem?_eq_none (show 154 ≤ k from h)]; rfl
theorem qof_tau0 : qof tau0 = fun _ _ => 0 := by
  funext k j
  unfold qof
  rw [tau_far (by omega), tau_far (by omega)]; decide
def tauV (g : Nat → Int64) : Tau := tl tau0 137 g
theorem tauV_e (g : Nat → Int64) {a : Nat} (h : a ≠ 337) (j : Nat) : tauV g a j = tau0 a j := (Ml_tl tau0 137 g).1 a h j
theorem tauV_fr (g : Nat → Int64) : Fr [] [337] tau0 (tauV g) := Fr_ml Fr_rfl (Ml_tl tau0 137 g) (by decide)
theorem tauV_jj (g : Nat → Int64) : JJ (tauV g) := by
  have F := tauV_fr g
  obtain ⟨h0, hWI, hHI, hIM, hLR, hYW, hYT, hYA, hYB, hPF, hPK⟩ := tau_jj
  exact ⟨Inv_ml tau_inv (Ml_tl tau0 137 g), (WI_fr hWI F (by decide +kernel)), (HI_fr hHI F (by decide +kernel)), (IM_fr hIM F (by decide +kernel)), (LR_fr hLR F (by decide +kernel)), (YW_fr hYW F (by decide +kernel)), (YT_fr hYT F (by decide +kernel)), (YA_fr hYA F (by decide +kernel)), (YB_fr hYB F (by decide +kernel)), (PF_fr hPF F (by decide +kernel)), (PK_fr hPK F (by decide +kernel))⟩
theorem tauV_q (g : Nat → Int64) : qu (fun _ _ => 0) 137 g = qof (tauV g) := by
  unfold tauV
  rw [qof_tl, qof_tau0]
theorem tauV_zz (g : Nat → Int64) (hg : ∀ i, i < 24 → (g i).toInt = e256 (kwm.getD i [])) : ZZ (tauV g) := by
  have e := fun a h j => tauV_e g (a := a) h j
  refine ⟨fun j hj => ?_, fun i hi => ?_, ?_, ⟨?_, ?_⟩⟩
  · rw [e 1 (by decide)] at hj
    exact absurd hj (by show ¬ ((j : Int) < 0); omega)
  · rw [← tauV_q]
    exact hg i hi
  · exact ⟨[], [], ⟨⟨by rw [e 23 (by decide)]; rfl, fun i hi => absurd hi (Nat.not_lt_zero _), fun l hl => by cases hl⟩, ⟨by rw [e 23 (by decide)]; rfl, fun i hi => absurd hi (Nat.not_lt_zero _), fun l hl => by cases hl⟩⟩, ⟨by rw [e 133 (by decide)]; rfl, fun i hi => absurd hi (Nat.not_lt_zero _), fun l hl => by cases hl⟩, ⟨by rw [e 133 (by decide)]; rfl, fun i hi => absurd hi (Nat.not_lt_zero _), fun l hl => by cases hl⟩⟩
  · intro h
    rw [e 152 (by decide)] at h
    exact absurd h (by decide)
  · intro h
    rw [e 152 (by decide)] at h
    exact absurd h (by decide)
