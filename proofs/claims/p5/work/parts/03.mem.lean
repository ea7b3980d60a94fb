abbrev Tau : Type := Nat → Nat → Int32
abbrev Gx : Type := va_G × (Nat → ClassId) × (Nat → Nat) × (Nat → Nat) × (Nat → Prop)
abbrev R (lo hi : Int) (x : Int32) : Prop := lo ≤ x.toInt ∧ x.toInt ≤ hi
def wd (G : Gx) (x : Int32) : Option Nat := if x = 0 then none else some (G.2.2.1 (x.toNatClampNeg - 1))
def NC : Nat := 154
def kdl : List Nat := [0, 1, 2, 3, 4, 5, 6, 7, 8, 9, 10, 11, 12, 13, 14, 15, 16, 17, 18, 19, 20, 21, 22, 4, 5, 6, 7, 8, 9, 10, 23, 24, 25, 26, 27, 17, 18, 19, 20, 21, 23, 24, 25, 26, 27, 28, 29, 30, 31, 32, 33, 34, 23, 24, 25, 26, 27, 23, 24, 25, 26, 27, 23, 24, 25, 26, 27, 23, 24, 25, 26, 27, 23, 24, 25, 26, 27, 23, 24, 25, 26, 27, 23, 24, 25, 26, 27, 23, 24, 25, 26, 27, 35, 22, 4, 5, 6, 7, 8, 9, 10, 23, 24, 25, 26, 27, 17, 18, 19, 20, 21, 22, 4, 5, 6, 7, 8, 9, 10, 23, 24, 25, 26, 27, 17, 18, 19, 20, 21, 36, 37, 38, 39, 40, 41, 42, 43, 44, 45, 46, 47, 48, 49, 50, 51, 52, 53, 54, 55, 56, 57, 58, 59, 60]
def kd (k : Nat) : Nat := kdl.getD k 99
/-- what a cell of each kind is, by its numbers t and its longs q -/
def shL (G : Gx) (k : Nat) (t : Nat → Int32) (q : Nat → Int64) : List va_E := [
  .inr (9, [.ref (G.2.2.2.1 1), .ref (G.2.2.2.1 3), .ref (G.2.2.2.1 11), .ref (G.2.2.2.1 16), .ref (G.2.2.2.1 22), .ref (G.2.2.2.1 40), .ref (G.2.2.2.1 45), .ref (G.2.2.2.1 51), .int (t 8), .int (t 9), .ref (G.2.2.2.1 92), .int (t 11), .int (t 12), .int (t 13), .int (t 14), .ref (G.2.2.2.1 129), .ref (G.2.2.2.1 130)]),
  .inr (7, [.ref (G.2.2.2.1 (k + 1)), .int (t 1), .int (t 2), .int (t 3), .int (t 4), .int (t 5), .long (q 6), .int (t 7), .int (t 8)]),
  .inl (G.2.1 0, 940, .inl t),
  .inr (0, [.ref (G.2.2.2.1 1), .int (t 1), .int (t 2), .ref (G.2.2.2.1 (k + 1)), .int (t 4), .int (t 5), .int (t 6)]),
  .inr (2, [.int (t 0), .int (t 1), .int (t 2), .int (t 3), .int (t 4), .ref (G.2.2.2.1 (k + 1)), .ref (G.2.2.2.1 (k + 2)), .ref (G.2.2.2.1 (k + 3)), .ref (G.2.2.2.1 (k + 4)), .ref (G.2.2.2.1 (k + 5)), .ref (G.2.2.2.1 (k + 6))]),
  .inl (G.2.1 0, 10, .inl t),
  .inl (G.2.1 0, 10, .inl t),
  .inl (G.2.1 0, 10, .inl t),
  .inl (G.2.1 0, 90, .inl t),
  .inl (G.2.1 1, 9, .inr (.inl q)),
  .inl (G.2.1 1, 10, .inr (.inl q)),
  .inr (1, [.ref (G.2.2.2.1 1), .int (t 1), .int (t 2), .int (t 3), .ref (G.2.2.2.1 (k + 1)), .ref (G.2.2.2.1 (k + 2)), .ref (G.2.2.2.1 (k + 3)), .ref (G.2.2.2.1 (k + 4))]),
  .inl (G.2.1 0, 40, .inl t),
  .inl (G.2.1 0, 40, .inl t),
  .inl (G.2.1 0, 40, .inl t),
  .inl (G.2.1 0, 40, .inl t),
  .inr (6, [.ref (G.2.2.2.1 1), .int (t 1), .int (t 2), .ref (G.2.2.2.1 (k + 1)), .int (t 4), va_rf (if t 5 = 0 then none else some (G.2.2.2.1 23))]),
  .inr (5, [.ref (G.2.2.2.1 (k + 1)), .ref (G.2.2.2.1 (k + 2)), .ref (G.2.2.2.1 (k + 3)), .ref (G.2.2.2.1 (k + 4)), .int (t 4)]),
  .inl (G.2.1 4, 40, .inr (.inr (.inr (.inr fun j => wd G (t j))))),
  .inl (G.2.1 0, 40, .inl t),
  .inl (G.2.1 0, 40, .inl t),
  .inl (G.2.1 0, 40, .inl t),
  .inr (8, [.ref (G.2.2.2.1 (k + 1)), .ref (G.2.2.2.1 (k + 8)), .ref (G.2.2.2.1 (k + 13)), .int (t 3)]),
  .inr (3, [.ref (G.2.2.2.1 (k + 1)), .ref (G.2.2.2.1 (k + 2)), .ref (G.2.2.2.1 (k + 3)), .ref (G.2.2.2.1 (k + 4)), .int (t 4), .int (t 5), .int (t 6), .int (t 7), .int (t 8), .int (t 9), .int (t 10)]),
  .inl (G.2.1 0, 90, .inl t),
  .inl (G.2.1 0, 90, .inl t),
  .inl (G.2.1 0, 10, .inl t),
  .inl (G.2.1 0, 10, .inl t),
  .inr (4, [.ref (G.2.2.2.1 (k + 1)), .ref (G.2.2.2.1 (k + 2)), .ref (G.2.2.2.1 (k + 3)), .ref (G.2.2.2.1 (k + 4)), .ref (G.2.2.2.1 (k + 5))]),
  .inl (G.2.1 0, 1024, .inl t),
  .inl (G.2.1 2, 1024, .inl t),
  .inl (G.2.1 2, 1024, .inl t),
  .inl (G.2.1 0, 2048, .inl t),
  .inl (G.2.1 0, 2048, .inl t),
  .inl (G.2.1 5, 8, .inr (.inr (.inr (.inr fun j => some (G.2.2.2.1 (52 + 5 * j)))))),
  .inl (G.2.1 6, 2, .inr (.inr (.inr (.inr fun j => some (G.2.2.2.1 (93 + 18 * j)))))),
  .inl (G.2.1 0, 10, .inl t),
  .inl (G.2.1 0, 4, .inl t),
  .inr (10, [.int (t 0), .ref (G.2.2.2.1 (k + 1)), .int (t 2), .int (t 3), .int (t 4), .int (t 5), .ref (G.2.2.2.1 (k + 2)), .ref (G.2.2.2.1 (k + 3)), .ref (G.2.2.2.1 (k + 4)), .ref (G.2.2.2.1 (k + 5)), .ref (G.2.2.2.1 (k + 6)), .int (t 11), .int (t 12), .int (t 13), .int (t 14), .int (t 15), .int (t 16), .long (q 17), .int (t 18), .int (t 19), .int (t 20), .int (t 21), .ref (G.2.2.2.1 (k + 7)), .ref (G.2.2.2.1 (k + 8)), .int (t 24), .ref (G.2.2.2.1 (k + 9)), .ref (G.2.2.2.1 (k + 10)), .ref (G.2.2.2.1 (k + 11)), .int (t 28), .int (t 29), .int (t 30), .ref (G.2.2.2.1 (k + 12)), .ref (G.2.2.2.1 (k + 13)), .int (t 33), .ref (G.2.2.2.1 (k + 14)), .ref (G.2.2.2.1 (k + 15)), .int (t 36), .int (t 37), .ref (G.2.2.2.1 (k + 16)), .int (t 39), .ref (G.2.2.2.1 (k + 17)), .int (t 41), .int (t 42), .int (t 43), .int (t 44), .int (t 45), .ref (G.2.2.2.1 (k + 18)), .ref (G.2.2.2.1 (k + 19)), .ref (G.2.2.2.1 (k + 20)), .ref (G.2.2.2.1 (k + 21))]),
  .inl (G.2.1 3, 940, .inl t),
  .inl (G.2.1 0, 513, .inl t),
  .inl (G.2.1 0, 125, .inl t),
  .inl (G.2.1 0, 160, .inl t),
  .inl (G.2.1 1, 38, .inr (.inl q)),
  .inl (G.2.1 1, 24, .inr (.inl q)),
  .inl (G.2.1 0, 1656, .inl t),
  .inl (G.2.1 0, 207, .inl t),
  .inl (G.2.1 0, 2048, .inl t),
  .inl (G.2.1 0, 2048, .inl t),
  .inl (G.2.1 2, 1024, .inl t),
  .inl (G.2.1 0, 1024, .inl t),
  .inl (G.2.1 0, 10, .inl t),
  .inl (G.2.1 0, 221, .inl t),
  .inl (G.2.1 0, 221, .inl t),
  .inl (G.2.1 0, 4, .inl t),
  .inl (G.2.1 0, 45, .inl t),
  .inl (G.2.1 2, 45, .inl t),
  .inl (G.2.1 0, 1026, .inl t),
  .inl (G.2.1 1, 38, .inr (.inl q)),
  .inl (G.2.1 2, 2, .inl t),
  .inl (G.2.1 1, 1, .inr (.inl q))]
def sh (G : Gx) (k : Nat) (t : Nat → Int32) (q : Nat → Int64) : va_E := (shL G k t q).getD (kd k) (.inr (99, []))
def wl (G : Gx) (τ : Tau) (q : Nat → Nat → Int64) : va_W := (List.range NC).map fun k => (G.2.2.2.1 k, sh G k (τ k) (q k))
def wl0 (G : Gx) : va_W := (List.range NC).map fun k => (G.2.2.2.1 k, .inr (0, []))
def tysG (G : Gx) : List (ClassId × FieldType) := [(G.2.1 0, .int), (G.2.1 1, .long), (G.2.1 2, .boolean), (G.2.1 3, .byte), (G.2.1 4, .object "OpinionFerry$Word"), (G.2.1 5, .object "OpinionFerry$Scene"), (G.2.1 6, .object "OpinionFerry$World")]
def wnm : List String := ["SEATS", "SLACK", "ASK", "MAN", "YES", "NO", "CHILD", "KIN", "CROSS", "RAISE", "HIRE", "LIES", "TURNS", "OR", "AND", "NOT", "OVER", "WET", "HIRED", "WITH", "FIRM", "WAGE", "TRIPS", "NUMBER"]
def rgs : List (Nat × Int × Int) → Int × Int → Nat → Int × Int
  | [], d, _ => d
  | (n, r) :: l, d, j => if j < n then r else rgs l d j
def rgL : List (List (Nat × Int × Int) × Int × Int) := [
  ([(8, (-2147483648, 2147483647)), (9, (0, 7)), (10, (0, 8)), (11, (-2147483648, 2147483647)), (12, (0, 3))], (-2147483648, 2147483647)),
  ([(1, (-2147483648, 2147483647)), (2, (0, 940)), (3, (0, 900)), (5, (0, 940)), (6, (0, 4))], (-2147483648, 2147483647)),
  ([], (0, 255)),
  ([(4, (-2147483648, 2147483647)), (5, (0, 940)), (7, (0, 1))], (-2147483648, 2147483647)),
  ([(1, (0, 8)), (3, (0, 9)), (4, (0, 10))], (-2147483648, 2147483647)),
  ([], (0, 20)),
  ([], (-1, 9)),
  ([], (0, 1023)),
  ([], (-9, 9)),
  ([], (-2147483648, 2147483647)),
  ([], (-2147483648, 2147483647)),
  ([(3, (-2147483648, 2147483647)), (4, (0, 40))], (-2147483648, 2147483647)),
  ([], (0, 4)),
  ([], (-1, 1023)),
  ([], (-1, 8)),
  ([], (-9, 9)),
  ([(4, (-2147483648, 2147483647)), (5, (0, 20)), (6, (0, 1))], (-2147483648, 2147483647)),
  ([(4, (-2147483648, 2147483647)), (5, (0, 40))], (-2147483648, 2147483647)),
  ([], (0, 24)),
  ([], (0, 99)),
  ([], (-2147483648, 2147483647)),
  ([], (-2147483648, 2147483647)),
  ([], (-2147483648, 2147483647)),
  ([(4, (-2147483648, 2147483647)), (5, (0, 1023)), (6, (0, 1)), (8, (0, 1023)), (9, (-1, 8))], (-2147483648, 2147483647)),
  ([], (-9, 9)),
  ([], (-9, 9)),
  ([], (0, 511)),
  ([], (-2147483648, 2147483647)),
  ([], (-2147483648, 2147483647)),
  ([], (-2147483648, 2147483647)),
  ([], (0, 1)),
  ([], (0, 1)),
  ([], (-2147483648, 2147483647)),
  ([], (0, 2047)),
  ([], (-2147483648, 2147483647)),
  ([], (-2147483648, 2147483647)),
  ([], (-1, 9)),
  ([], (-2147483648, 2147483647)),
  ([(2, (-2147483648, 2147483647)), (6, (0, 940)), (11, (-2147483648, 2147483647)), (12, (0, 4)), (14, (0, 940)), (21, (-2147483648, 2147483647)), (22, (-9, 9)), (24, (-2147483648, 2147483647)), (25, (0, 8)), (30, (-2147483648, 2147483647)), (31, (0, 1)), (33, (-2147483648, 2147483647)), (34, (-1, 10)), (37, (-2147483648, 2147483647)), (38, (0, 40)), (39, (-2147483648, 2147483647)), (40, (0, 1)), (41, (-2147483648, 2147483647)), (42, (0, 53)), (43, (0, 20)), (44, (0, 45)), (45, (-2147483648, 2147483647)), (46, (0, 1))], (-2147483648, 2147483647)),
  ([], (-128, 127)),
  ([(1, (0, 9)), (2, (0, 10)), (3, (0, 8)), (4, (0, 9)), (5, (-2147483648, 2147483647)), (15, (0, 20)), (105, (-9, 9)), (115, (0, 10)), (125, (0, 1023)), (126, (0, 1)), (127, (0, 8)), (129, (-2147483648, 2147483647)), (132, (0, 1023)), (142, (-2147483648, 2147483647)), (232, (-9, 9)), (242, (0, 511)), (332, (-9, 9)), (333, (0, 53)), (513, (-2147483648, 2147483647))], (-2147483648, 2147483647)),
  ([(1, (0, 9)), (2, (0, 10)), (3, (0, 8)), (4, (0, 9)), (5, (-2147483648, 2147483647)), (15, (0, 20)), (105, (-9, 9)), (115, (0, 10)), (125, (0, 1023))], (-2147483648, 2147483647)),
  ([], (-2147483648, 2147483647)),
  ([], (-2147483648, 2147483647)),
  ([], (-2147483648, 2147483647)),
  ([(1, (0, 1)), (2, (0, 8)), (4, (-2147483648, 2147483647)), (7, (0, 1023)), (17, (-2147483648, 2147483647)), (107, (-9, 9)), (117, (0, 511)), (207, (-9, 9)), (208, (0, 1)), (209, (0, 8)), (211, (-2147483648, 2147483647)), (214, (0, 1023)), (224, (-2147483648, 2147483647)), (314, (-9, 9)), (324, (0, 511)), (414, (-9, 9)), (415, (0, 1)), (416, (0, 8)), (418, (-2147483648, 2147483647)), (421, (0, 1023)), (431, (-2147483648, 2147483647)), (521, (-9, 9)), (531, (0, 511)), (621, (-9, 9)), (622, (0, 1)), (623, (0, 8)), (625, (-2147483648, 2147483647)), (628, (0, 1023)), (638, (-2147483648, 2147483647)), (728, (-9, 9)), (738, (0, 511)), (828, (-9, 9)), (829, (0, 1)), (830, (0, 8)), (832, (-2147483648, 2147483647)), (835, (0, 1023)), (845, (-2147483648, 2147483647)), (935, (-9, 9)), (945, (0, 511)), (1035, (-9, 9)), (1036, (0, 1)), (1037, (0, 8)), (1039, (-2147483648, 2147483647)), (1042, (0, 1023)), (1052, (-2147483648, 2147483647)), (1142, (-9, 9)), (1152, (0, 511)), (1242, (-9, 9)), (1243, (0, 1)), (1244, (0, 8)), (1246, (-2147483648, 2147483647)), (1249, (0, 1023)), (1259, (-2147483648, 2147483647)), (1349, (-9, 9)), (1359, (0, 511)), (1449, (-9, 9)), (1450, (0, 1)), (1451, (0, 8)), (1453, (-2147483648, 2147483647)), (1456, (0, 1023)), (1466, (-2147483648, 2147483647)), (1556, (-9, 9)), (1566, (0, 511)), (1656, (-9, 9))], (-2147483648, 2147483647)),
  ([(1, (0, 1)), (2, (0, 8)), (4, (-2147483648, 2147483647)), (7, (0, 1023)), (17, (-2147483648, 2147483647)), (107, (-9, 9)), (117, (0, 511)), (207, (-9, 9))], (-2147483648, 2147483647)),
  ([], (-2147483648, 2147483647)),
  ([], (0, 2047)),
  ([], (0, 1)),
  ([], (-2147483648, 2147483647)),
  ([], (-1, 9)),
  ([], (-2147483648, 2147483647)),
  ([], (-2147483648, 2147483647)),
  ([], (-2147483648, 2147483647)),
  ([], (-2147483648, 2147483647)),
  ([], (0, 1)),
  ([(1, (0, 9)), (2, (0, 10)), (3, (0, 8)), (4, (0, 9)), (5, (-2147483648, 2147483647)), (15, (0, 20)), (105, (-9, 9)), (115, (0, 10)), (125, (0, 1023)), (126, (0, 1)), (127, (0, 8)), (129, (-2147483648, 2147483647)), (132, (0, 1023)), (142, (-2147483648, 2147483647)), (232, (-9, 9)), (242, (0, 511)), (332, (-9, 9)), (333, (0, 53)), (513, (-2147483648, 2147483647)), (514, (0, 9)), (515, (0, 10)), (516, (0, 8)), (517, (0, 9)), (518, (-2147483648, 2147483647)), (528, (0, 20)), (618, (-9, 9)), (628, (0, 10)), (638, (0, 1023)), (639, (0, 1)), (640, (0, 8)), (642, (-2147483648, 2147483647)), (645, (0, 1023)), (655, (-2147483648, 2147483647)), (745, (-9, 9)), (755, (0, 511)), (845, (-9, 9)), (846, (0, 53)), (1026, (-2147483648, 2147483647))], (-2147483648, 2147483647)),
  ([], (-2147483648, 2147483647)),
  ([], (0, 1)),
  ([], (-2147483648, 2147483647))]
def rg (K j : Nat) : Int × Int := rgs (rgL.getD K ([], (-2147483648, 2147483647))).1 (rgL.getD K ([], (-2147483648, 2147483647))).2 j
abbrev Rg (K j : Nat) (x : Int32) : Prop := (rg K j).1 ≤ x.toInt ∧ x.toInt ≤ (rg K j).2
def Inv (τ : Tau) : Prop := ∀ a b, Rg (kd a) b (τ a b)
def tbg : List Cond := lw_tbl.filter goodWord
theorem tbm {w : Cond} (h : w ∈ lw_tbl) (hg : goodWord w = true) : w ∈ tbg := List.mem_filter.mpr ⟨h, hg⟩
def tu (τ : Tau) (k : Nat) (f : Nat → Int32) : Tau := fun a => if a = k then f else τ a
def qu (q : Nat → Nat → Int64) (k : Nat) (f : Nat → Int64) : Nat → Nat → Int64 := fun a => if a = k then f else q a
/-! the longs: the halves of the long j of cell k are the numbers 2 j and 2 j + 1 of cell k + 200 -/
def spL : List Int64 := [10197082, 10334396, 1253, 9518, 18379, 393, 1758676, 8276, 1960084, 9592700, 164516, 242911, 11055682, 423, 1111, 10631, 311436, 16922, 4441936, 459818, 125158, 453632, 10990126, 212302449]
def lhi (x : Int64) : Int32 := ⟨⟨x.toBitVec.extractLsb' 32 32⟩⟩
def llo (x : Int64) : Int32 := ⟨⟨x.toBitVec.extractLsb' 0 32⟩⟩
def lmk (h l : Int32) : Int64 := ⟨⟨(h.toBitVec ++ l.toBitVec : BitVec 64)⟩⟩
theorem lmk_eq (x : Int64) : lmk (lhi x) (llo x) = x := by
  have h : (x.toBitVec.extractLsb' 32 32 ++ x.toBitVec.extractLsb' 0 32 : BitVec 64) = x.toBitVec := by
    apply BitVec.eq_of_getLsbD_eq
    intro i hi
    rw [BitVec.getLsbD_append, BitVec.getLsbD_extractLsb', BitVec.getLsbD_extractLsb']
    by_cases h : i < 32
    · simp [h]
    · have h2 : i - 32 < 32 := by omega
      have h3 : 32 + (i - 32) = i := by omega
      simp [h, h2, h3]
  unfold lmk
  show (⟨⟨(x.toBitVec.extractLsb' 32 32 ++ x.toBitVec.extractLsb' 0 32 : BitVec 64)⟩⟩ : Int64) = x
  rw [h]; rfl
def qof (τ : Tau) : Nat → Nat → Int64 := fun k j => lmk (τ (k + 200) (2 * j)) (τ (k + 200) (2 * j + 1))
def tl (τ : Tau) (k : Nat) (f : Nat → Int64) : Tau := tu τ (k + 200) (fun m => if m % 2 = 0 then lhi (f (m / 2)) else llo (f (m / 2)))
theorem qof_tu {τ : Tau} {k : Nat} {t : Nat → Int32} (hk : k < NC) : qof (tu τ k t) = qof τ := by
  have hn : NC = 154 := rfl
  funext a j
  have h : ¬ a + 200 = k := by omega
  simp [qof, tu, h]
theorem qof_tl (τ : Tau) (k : Nat) (f : Nat → Int64) : qof (tl τ k f) = qu (qof τ) k f := by
  funext a j
  by_cases h : a = k
  · subst h
    have h1 : (2 * j + 1) % 2 = 1 := by omega
    have h2 : (2 * j + 1) / 2 = j := by omega
    simp [qof, tl, tu, qu, h1, h2, lmk_eq]
  · simp [qof, tl, tu, qu, h]
/-- the longs of cell k are f; all else is as it was -/
def Ml (τ u : Tau) (k : Nat) (f : Nat → Int64) : Prop := (∀ a, a ≠ k + 200 → ∀ b, u a b = τ a b) ∧ qof u = qu (qof τ) k f
theorem Ml_tl (τ : Tau) (k : Nat) (f : Nat → Int64) : Ml τ (tl τ k f) k f := ⟨fun a ha b => by simp [tl, tu, ha], qof_tl τ k f⟩
theorem Ml_at {τ u : Tau} {k : Nat} {f : Nat → Int64} (h : Ml τ u k f) (j : Nat) : qof u k j = f j := by rw [h.2]; simp [qu]
theorem Ml_ne {τ u : Tau} {k : Nat} {f : Nat → Int64} (h : Ml τ u k f) {a : Nat} (ha : a ≠ k) (j : Nat) : qof u a j = qof τ a j := by rw [h.2]; simp [qu, ha]
/-- one number has changed -/
def Mu (τ τ' : Tau) (k j : Nat) (x : Int32) : Prop := τ' k j = x ∧ ∀ a b, (a ≠ k ∨ b ≠ j) → τ' a b = τ a b
theorem Mu_tu (τ : Tau) (k j : Nat) (x : Int32) : Mu τ (tu τ k (upd (τ k) j x)) k j x := by
  refine ⟨?_, fun a b h => ?_⟩
  · simp [tu, upd]
  · by_cases ha : a = k
    · subst ha
      have hb : b ≠ j := by rcases h with h | h; exact absurd rfl h; exact h
      simp [tu, upd, hb]
    · simp [tu, ha]
theorem Inv_mu {τ τ' : Tau} {k j : Nat} {x : Int32} (h : Inv τ) (hM : Mu τ τ' k j x) (hr : Rg (kd k) j x) : Inv τ' := by
  intro a b
  by_cases ha : a = k ∧ b = j
  · obtain ⟨rfl, rfl⟩ := ha
    rw [hM.1]; exact hr
  · have : a ≠ k ∨ b ≠ j := by
      by_cases h1 : a = k
      · exact Or.inr fun h2 => ha ⟨h1, h2⟩
      · exact Or.inl h1
    rw [hM.2 a b this]; exact h a b
theorem Inv_ml {τ u : Tau} {k : Nat} {f : Nat → Int64} (h : Inv τ) (hM : Ml τ u k f) : Inv u := by
  intro a b
  by_cases ha : a = k + 200
  · subst ha
    have e1 : kd (k + 200) = 99 := by
      unfold kd
      rw [List.getD_eq_getElem?_getD, List.getElem?_eq_none (show 154 ≤ k + 200 by omega)]; rfl
    rw [e1]; exact ⟨Int32.le_toInt _, Int32.toInt_le _⟩
  · rw [hM.1 a ha b]; exact h a b
theorem sh_of {G : Gx} {k K : Nat} {t : Nat → Int32} {q : Nat → Int64} {e : va_E} (hkd : kd k = K) (h : (shL G k t q)[K]? = some e) : sh G k t q = e := by
  unfold sh
  rw [hkd, List.getD_eq_getElem?_getD, h]; rfl
theorem wl_at {G : Gx} {τ : Tau} {q : Nat → Nat → Int64} {k : Nat} (hk : k < NC) : (wl G τ q)[k]? = some (G.2.2.2.1 k, sh G k (τ k) (q k)) := by
  unfold wl
  rw [List.getElem?_map, List.getElem?_range hk]; rfl
theorem wl_set {G : Gx} {τ : Tau} {q : Nat → Nat → Int64} {k : Nat} {t : Nat → Int32} {e : va_E} (he : sh G k t (q k) = e) : (wl G τ q).set k (G.2.2.2.1 k, e) = wl G (tu τ k t) q := by
  apply List.ext_getElem?
  intro i
  rw [List.getElem?_set]
  unfold wl
  by_cases hi : i < NC
  · by_cases h : k = i
    · subst h
      simp [hi, tu, he]
    · have h2 : ¬ i = k := fun e => h e.symm
      rw [if_neg h, List.getElem?_map, List.getElem?_map, List.getElem?_range hi]
      simp [h2, tu]
  · have h3 : NC ≤ i := Nat.le_of_not_lt hi
    by_cases h : k = i
    · subst h; simp [hi, h3]
    · simp [h, h3]
theorem wl_setq {G : Gx} {τ : Tau} {q : Nat → Nat → Int64} {k : Nat} {t : Nat → Int64} {e : va_E} (he : sh G k (τ k) t = e) : (wl G τ q).set k (G.2.2.2.1 k, e) = wl G τ (qu q k t) := by
  apply List.ext_getElem?
  intro i
  rw [List.getElem?_set]
  unfold wl
  by_cases hi : i < NC
  · by_cases h : k = i
    · subst h
      simp [hi, qu, he]
    · have h2 : ¬ i = k := fun e => h e.symm
      rw [if_neg h, List.getElem?_map, List.getElem?_map, List.getElem?_range hi]
      simp [h2, qu]
  · have h3 : NC ≤ i := Nat.le_of_not_lt hi
    by_cases h : k = i
    · subst h; simp [hi, h3]
    · simp [h, h3]
theorem wl_tl {G : Gx} {τ : Tau} {q : Nat → Nat → Int64} {k : Nat} {f : Nat → Int64} : wl G (tl τ k f) q = wl G τ q := by
  have hn : NC = 154 := rfl
  unfold wl
  apply List.map_congr_left
  intro a ha
  have h : ¬ a = k + 200 := by have := List.mem_range.mp ha; omega
  simp [tl, tu, h]
theorem wl_D {G : Gx} {A : Nat → Prop} (τ : Tau) (q : Nat → Nat → Int64) (h : va_D A (wl0 G)) : va_D A (wl G τ q) := by
  have key : ∀ (i : Nat) (p : Nat × va_E), (wl G τ q)[i]? = some p → (wl0 G)[i]? = some (p.1, .inr (0, [])) := by
    intro i p hp
    unfold wl at hp
    unfold wl0
    rw [List.getElem?_map] at hp ⊢
    cases hr : (List.range NC)[i]? with
    | none => rw [hr] at hp; cases hp
    | some z => rw [hr] at hp; cases hp; rfl
  exact ⟨fun i j p q hi hj e => h.1 i j _ _ (key i p hi) (key j q hj) e, fun k p hp => h.2 k (p.1, .inr (0, [])) (key k p hp)⟩
/-- the enum's constants, as they stand from the start -/
def EnW (G : Gx) (U : State) (H : Heap) : Prop := va_En "OpinionFerry$Word" "LOpinionFerry$Word;" wnm [] G.2.2.1 G.2.2.2.2 U H ∧ (∀ i, i < 24 → va_OF "OpinionFerry$Word" "spelling" "J" (.long (spL.getD i 0)) (G.2.2.1 i) G.2.2.2.2 U H) ∧ ∃ t : Nat, va_Z "OpinionFerry$Word" "ALL" "[LOpinionFerry$Word;" (.ref t) G.2.2.2.2 U H ∧ va_T (.object "OpinionFerry$Word") t 24 (fun j => .ref (G.2.2.1 j)) G.2.2.2.2 U H
theorem EnW.moved {G : Gx} {u U : State} {H : Heap} (hvm : u.vm.Alike U.vm) (h : EnW G u H) : EnW G U H := by
  obtain ⟨h1, h2, t, h3, h4⟩ := h
  refine ⟨h1.moved hvm, fun i hi => ?_, t, h3.moved hvm, h4.moved hvm⟩
  exact (h2 i hi).moved hvm
theorem EnW.kept {G : Gx} {U : State} {H H1 : Heap} (h : EnW G U H) (hq : ∀ a : Nat, a < H.size → ¬ G.2.2.2.2 a → H1[a]? = H[a]?) : EnW G U H1 := by
  obtain ⟨h1, h2, t, h3, h4⟩ := h
  refine ⟨h1.kept hq, fun i hi => ?_, t, h3.kept hq, h4.kept hq⟩
  exact (h2 i hi).kept hq
def nstL : List (String × Nat × MethodName × String) := [("OpinionFerry", 11, ⟨"OpinionFerry$Tape", "<init>", "()V"⟩, "OpinionFerry"), ("OpinionFerry", 41, ⟨"OpinionFerry$World", "<init>", "()V"⟩, "OpinionFerry"), ("OpinionFerry", 48, ⟨"OpinionFerry$Scene", "<init>", "()V"⟩, "OpinionFerry"), ("OpinionFerry", 55, ⟨"OpinionFerry$Search", "<init>", "()V"⟩, "OpinionFerry"), ("OpinionFerry$FerryText", 178, ⟨"OpinionFerry", "bit", "(II)I"⟩, "OpinionFerry"), ("OpinionFerry$LogText", 95, ⟨"OpinionFerry", "bit", "(II)I"⟩, "OpinionFerry"), ("OpinionFerry$Search", 118, ⟨"OpinionFerry", "bit", "(II)I"⟩, "OpinionFerry"), ("OpinionFerry$SentenceText", 11, ⟨"OpinionFerry$Sentence", "<init>", "()V"⟩, "OpinionFerry"), ("OpinionFerry$World", 20, ⟨"OpinionFerry$Scene", "<init>", "()V"⟩, "OpinionFerry"), ("OpinionFerry$World", 27, ⟨"OpinionFerry$Sentence", "<init>", "()V"⟩, "OpinionFerry"), ("OpinionFerry$World", 65, ⟨"OpinionFerry", "bit", "(II)I"⟩, "OpinionFerry")]
/-- the links of nest mates -/
def Nst (U : State) : Prop := ∀ q ∈ nstL, va_Nw (.methodLinkNest q.1 q.2.1 q.2.2.1 q.2.2.2) U
theorem Nst.warm {s U : State} (hW : s.WarmedH U.vm) (h : Nst s) : Nst U := fun q hq => va_Nw.warmM hW (h q hq)
theorem Nst.same {s U : State} (e : s.vm = U.vm) (h : Nst s) : Nst U := fun q hq => va_Nw.same rfl e (h q hq)
/-- what holds all through a method -/
abbrev Sx (G : Gx) (p : Program) (m : MethodId) (c : Code) (cc : ByteArray) (nL : Nat) (s : State) (args : Array Value) (own : String) : Prop :=
  CallFix p m c cc nL s args tbg own ∧ va_K G.1 vwCl (tysG G) s ∧ va_D G.2.2.2.2 (wl0 G) ∧ EnW G s s.heap ∧ Nst s
/-- the heap holds the numbers τ; nothing else that was there has changed -/
abbrev Xd (G : Gx) (s : State) (H : Heap) (locs : List Loc) (τ : Tau) : Prop := (∃ q, q = qof τ ∧ va_P G.1 vwCl (wl G τ q) H) ∧ va_S G.2.2.2.2 s.heap H locs
def Bs (G : Gx) (τ : Tau) (U : State) : Prop := (∃ q, q = qof τ ∧ va_P G.1 vwCl (wl G τ q) U.heap) ∧ va_K G.1 vwCl (tysG G) U ∧ va_D G.2.2.2.2 (wl0 G) ∧ EnW G U U.heap ∧ Nst U
theorem Bs_blind {G : Gx} {τ : Tau} {as : List Value} : FrameBlind (va_Pc as (Bs G τ)) := fun a U g mk q => by
  obtain ⟨q0, qP, qK, qD, qE, qN⟩ := q
  exact ⟨q0, qP, va_K.moved (u := U) (U := U.calling g mk a) (Vm.Alike.refl U.vm) qK, qD, EnW.moved (u := U) (U := U.calling g mk a) (Vm.Alike.refl U.vm) qE, Nst.same (s := U) (U := U.calling g mk a) rfl qN⟩
theorem Bs_in {G : Gx} {p : Program} {m : MethodId} {c : Code} {cc : ByteArray} {nL : Nat} {s : State} {args : Array Value} {own : String} {H : Heap} {locs : List Loc} {τ : Tau} (S : Sx G p m c cc nL s args own) (X : Xd G s H locs τ) {U : State} (hU : U.heap = H) (hW : s.WarmedH U.vm) : Bs G τ U := by
  obtain ⟨-, hK, hD, hE, hN⟩ := S
  refine ⟨by rw [hU]; exact X.1, va_K.moved hW.alike hK, hD, ?_, hN.warm hW⟩
  rw [hU]
  exact (hE.kept X.2.2.1).moved hW.alike
abbrev Ws (y : MethodName) (cc : ByteArray) (n : Nat) (ret : Option FieldType) : List Cond := .code y cc n ret :: tbg
abbrev Rm (f w : Nat) : Room := { frames := f, cells := 0, slots := 0, locals := w }
/-- a method that answers an int (a boolean) -/
def Ci (l : Launch) (G : Gx) (y : MethodName) (cc : ByteArray) (n : Nat) (ret : Option FieldType) (f w : Nat) (as : List Value) (τ : Tau) (post : Int32 → Tau → Prop) : Prop :=
  Met l y (Ws y cc n ret) (Rm f w) (va_Pc as (Bs G τ)) (va_Qi post (Bs G) G.2.2.2.2) 0 0 G.2.2.2.2
def Cv (l : Launch) (G : Gx) (y : MethodName) (cc : ByteArray) (n : Nat) (f w : Nat) (as : List Value) (τ : Tau) (post : Tau → Prop) : Prop :=
  Met l y (Ws y cc n none) (Rm f w) (va_Pc as (Bs G τ)) (va_Qv post (Bs G) G.2.2.2.2) 0 0 G.2.2.2.2
def Cq (l : Launch) (G : Gx) (y : MethodName) (cc : ByteArray) (n : Nat) (ret : Option FieldType) (f w : Nat) (as : List Value) (τ : Tau) (post : Option Nat → Tau → Prop) : Prop :=
  Met l y (Ws y cc n ret) (Rm f w) (va_Pc as (Bs G τ)) (va_Qq post (Bs G) G.2.2.2.2) 0 0 G.2.2.2.2
theorem C_of {l : Launch} {G : Gx} {y : MethodName} {cc : ByteArray} {n : Nat} {ret : Option FieldType} {f w : Nat} {as : List Value} {τ : Tau} {own : String} {Qc : Array Value → State → Outcome → State → Prop} (hy : plainName y.cls = true) (ho : y.cls = own) (hlen : (lg_sl as).length ≤ n)
    (body : ∀ (p : Program) (e : Env) (s : State) (m : MethodId) (below : List Frame) (meth : Method) (c : Code) (ls : Array Slot), Sx G p m c cc n s as.toArray own → meth.sig.returnType = ret → meth.locks = false → Xd G s s.heap [] τ → lv_has ls n (lv_args 0 as) →
      W p l e (Rm f w) s m as.toArray below meth c s.heap [] 0 0 (MQ below Qc as.toArray s 0 0 G.2.2.2.2) (F0 m 0 ls [])) :
    Met l y (Ws y cc n ret) (Rm f w) (va_Pc as (Bs G τ)) Qc 0 0 G.2.2.2.2 := by
  subst ho
  refine Met.ofW (cc := cc) (maxL := n) (ret := ret) hy rfl ?_
  intro p e s m args below meth c s₁ B hml hv
  obtain ⟨rfl, hP, hK, hD, hE⟩ := hv
  have hts := atoms_spec (ws := Ws y cc n ret) B.pre
  have hown : s.vm.findClass y.cls = some m.cls := findClass_of_methodNamed B.named
  rw [lg_entry_eq]
  exact body p e s m below meth c _ ⟨⟨B.exec, B.bytes, hml, hown, fun w h => hts w (List.mem_cons_of_mem _ h)⟩, hK, hD, hE⟩ B.returns B.notSynchronized ⟨hP, va_S.rf⟩ (lv_entry as hlen)
/-- what a field's link says: index in the pool of own names field j of class ci -/
def Lk (own : String) (index ci j : Nat) : Prop := ∃ (C ref : String) (T : u_T) (N : Nat) (ty0 : Nat → FieldType), vwCl[ci]? = some (C, T, N) ∧ j < N ∧ (∀ w ∈ u_ws C T N, w ∈ tbg) ∧ (∀ k, k < N → parseFieldDescriptor (T k).2.2.1 = some (ty0 k)) ∧ (∀ a, a < N → ∀ b, b < N → a ≠ b → (T a).2.1 ≠ (T b).2.1) ∧ Cond.fieldLink own index ref (T j).2.1 (T j).2.2.1 ∈ tbg ∧ (ref = (T j).1 ∨ Cond.sameField ref (T j).1 (T j).2.1 (T j).2.2.1 ∈ tbg)
section RL
variable {p : Program} {l : Launch} {e : Env} {Rr : Room} {s : State} {m : MethodId} {args : Array Value} {below : List Frame} {meth : Method} {c : Code} {H : Heap} {locs : List Loc} {cells slots : Nat} {Q : State → Prop}
variable {cc : ByteArray} {nL pc : Nat} {ls : Array Slot} {rest : List Value} {G : Gx} {own : String} {τ : Tau}
theorem r_ret {post : Int32 → Tau → Prop} {v : Int32} {ty : FieldType} (S : Sx G p m c cc nL s args own) (hr : meth.sig.returnType = some ty) (hlk : meth.locks = false) (X : Xd G s H locs τ) (hp : post v τ) (hn : narrow ty (.int v) = .int v) (hdg : decode cc pc = .ok (.ireturn, 1)) :
    W p l e Rr s m args below meth c H locs cells slots (MQ below (va_Qi post (Bs G) G.2.2.2.2) args s cells slots G.2.2.2.2) (F0 m pc ls [.int v]) :=
  W.zret (v := v) S.1.1 S.1.2.1 hr hn (fun t ht hW => ⟨⟨v, τ, rfl, hp, Bs_in S X ht hW⟩, X.2.F ht⟩) X.2.2.2 hdg hlk
theorem r_vret {post : Tau → Prop} (S : Sx G p m c cc nL s args own) (hr : meth.sig.returnType = none) (hlk : meth.locks = false) (X : Xd G s H locs τ) (hp : post τ) (hdg : decode cc pc = .ok (.return_, 1)) :
    W p l e Rr s m args below meth c H locs cells slots (MQ below (va_Qv post (Bs G) G.2.2.2.2) args s cells slots G.2.2.2.2) (F0 m pc ls []) :=
  W.vret S.1.1 S.1.2.1 hr (fun t ht hW => ⟨⟨τ, rfl, hp, Bs_in S X ht hW⟩, X.2.F ht⟩) X.2.2.2 hdg hlk
theorem r_get {k K ci j index : Nat} {v : Value} (S : Sx G p m c cc nL s args own) (X : Xd G s H locs τ) (hk : k < NC) (hkd : kd k = K) (lk : Lk own index ci j) (hs : ∀ q, ∃ fs, (shL G k (τ k) q)[K]? = some (.inr (ci, fs)) ∧ fs[j]? = some v) (hdg : decode cc pc = .ok (.getfield index, 3))
    (kk : W p l e Rr s m args below meth c H locs cells slots Q (F0 m (pc + 3) ls (v :: rest))) : W p l e Rr s m args below meth c H locs cells slots Q (F0 m pc ls (.ref (G.2.2.2.1 k) :: rest)) := by
  obtain ⟨⟨hx, hb, hml, hown, hts⟩, hK, hD, hE⟩ := S
  obtain ⟨⟨q, hq, hP⟩, hS⟩ := X
  obtain ⟨C, ref, T, N, ty0, hc, hj, hin, hty, hnm, hl, hsame⟩ := lk
  obtain ⟨fs, h1, h2⟩ := hs (q k)
  have hw : (wl G τ q)[k]? = some (G.2.2.2.1 k, .inr (ci, fs)) := by rw [wl_at hk, sh_of hkd h1]
  refine va_get hx hb hts hin hown hK hP k hw hc j hj (hts _ hl) (fun x hf => ?_) h2 hdg kk
  rcases hsame with h | h
  · rw [h]; exact hf
  · exact u_same (hts _ h) _ hf
theorem r_put {k K ci j index : Nat} {x : Int32} {ty : FieldType} (S : Sx G p m c cc nL s args own) (X : Xd G s H locs τ) (hk : k < NC) (hkd : kd k = K) (lk : Lk own index ci j)
    (hs : ∀ q, ∃ fs, (shL G k (τ k) q)[K]? = some (.inr (ci, fs)) ∧ j < fs.length ∧ (shL G k (upd (τ k) j x) q)[K]? = some (.inr (ci, fs.set j (.int x)))) (hf : ∀ C T N, vwCl[ci]? = some (C, T, N) → (T j).2.2.2 = false ∧ parseFieldDescriptor (T j).2.2.1 = some ty) (hn : narrow ty (.int x) = .int x) (hfit : fits ty (.int x) = true) (hdg : decode cc pc = .ok (.putfield index, 3))
    (kk : ∀ (τ' : Tau) (H1 : Heap) (locs1 : List Loc), Mu τ τ' k j x → Xd G s H1 locs1 τ' → W p l e Rr s m args below meth c H1 locs1 cells slots Q (F0 m (pc + 3) ls rest)) : W p l e Rr s m args below meth c H locs cells slots Q (F0 m pc ls (.int x :: .ref (G.2.2.2.1 k) :: rest)) := by
  obtain ⟨⟨hx, hb, hml, hown, hts⟩, hK, hD, hE⟩ := S
  obtain ⟨⟨q, hq, hP⟩, hS⟩ := X
  obtain ⟨C, ref, T, N, ty0, hc, hj, hin, hty, hnm, hl, hsame⟩ := lk
  obtain ⟨fs, h1, h2, h3⟩ := hs (q k)
  obtain ⟨f1, f2⟩ := hf C T N hc
  have hw : (wl G τ q)[k]? = some (G.2.2.2.1 k, .inr (ci, fs)) := by rw [wl_at hk, sh_of hkd h1]
  refine va_put hx hb hts hin ty0 hty hnm hown hK hP (wl_D τ q hD) hS k hw hc j hj (hts _ hl) (fun x hf => ?_) f1 f2 hn hfit h2 hdg (fun H1 locs1 hP1 hD1 hS1 => ?_)
  · rcases hsame with h | h
    · rw [h]; exact hf
    · exact u_same (hts _ h) _ hf
  · refine kk (tu τ k (upd (τ k) j x)) H1 locs1 (Mu_tu τ k j x) ⟨⟨q, hq.trans (qof_tu hk).symm, ?_⟩, hS1⟩
    rw [← wl_set (sh_of hkd h3)]; exact hP1
theorem r_ald {k K n : Nat} {i : Int32} {cn : Nat} (S : Sx G p m c cc nL s args own) (X : Xd G s H locs τ) (hk : k < NC) (hkd : kd k = K) (hs : ∀ q, (shL G k (τ k) q)[K]? = some (.inl (G.2.1 0, n, .inl (τ k)))) (hin : 0 ≤ i.toInt ∧ i.toInt < n) (hdg : decode cc pc = .ok (.iaload, 1))
    (kk : W p l e Rr s m args below meth c H locs cells slots Q (F0 m (pc + 1) ls (.int (τ k i.toNatClampNeg) :: rest))) : W p l e Rr s m args below meth c H locs cells slots Q (F0 m pc ls (.int i :: .ref (G.2.2.2.1 k) :: rest)) := by
  obtain ⟨⟨hx, hb, hml, hown, hts⟩, hK, hD, hE⟩ := S
  obtain ⟨⟨q, hq, hP⟩, hS⟩ := X
  have hw : (wl G τ q)[k]? = some (G.2.2.2.1 k, .inl (G.2.1 0, n, .inl (τ k))) := by rw [wl_at hk, sh_of hkd (hs (q k))]
  exact va_iald hx hb hK hP k 0 hw rfl (vp_in_iff.mpr hin) hdg kk
end RL
theorem rd {τ : Tau} {k K j : Nat} {x : Int32} (hI : Inv τ) (hkd : kd k = K) (h : τ k j = x) : Rg K j x := by
  subst hkd; subst h; exact hI k j
/-- all but the fields fs and the cells cs is as it was -/
def fz (fs : List (Nat × Nat)) (cs : List Nat) (a b : Nat) : Bool := fs.any (fun q => q.1 == a && q.2 == b) || cs.any (fun k => k == a)
def Fr (fs : List (Nat × Nat)) (cs : List Nat) (τ u : Tau) : Prop := ∀ a b, fz fs cs a b = false → u a b = τ a b
theorem Fr_rfl {fs : List (Nat × Nat)} {cs : List Nat} {τ : Tau} : Fr fs cs τ τ := fun _ _ _ => rfl
theorem Fr_mu {fs : List (Nat × Nat)} {cs : List Nat} {τ u v : Tau} {k j : Nat} {x : Int32} (h : Fr fs cs τ u) (hM : Mu u v k j x) (hz : fz fs cs k j = true) : Fr fs cs τ v := fun a b hf => by
  have hn : a ≠ k ∨ b ≠ j := by
    by_cases h1 : a = k
    · by_cases h2 : b = j
      · subst h1; subst h2; rw [hz] at hf; cases hf
      · exact Or.inr h2
    · exact Or.inl h1
  rw [hM.2 a b hn]; exact h a b hf
theorem Fr_ml {fs : List (Nat × Nat)} {cs : List Nat} {τ u v : Tau} {k : Nat} {f : Nat → Int64} (h : Fr fs cs τ u) (hM : Ml u v k f) (hz : cs.any (fun c => c == k + 200) = true) : Fr fs cs τ v := fun a b hf => by
  have hn : a ≠ k + 200 := by
    intro e; subst e
    unfold fz at hf
    rw [hz, Bool.or_true] at hf; cases hf
  rw [hM.1 a hn b]; exact h a b hf
theorem Fr_cell {fs : List (Nat × Nat)} {cs : List Nat} {τ u v : Tau} {k j : Nat} {x : Int32} (h : Fr fs cs τ u) (hM : Mu u v k j x) (hz : cs.any (fun c => c == k) = true) : Fr fs cs τ v :=
  Fr_mu h hM (by unfold fz; rw [hz, Bool.or_true])
theorem Fr_call {fs fs' : List (Nat × Nat)} {cs cs' : List Nat} {τ u v : Tau} (h : Fr fs cs τ u) (h' : Fr fs' cs' u v) (hz : (fs'.all (fun q => fz fs cs q.1 q.2) && cs'.all (fun k => cs.any (fun c => c == k))) = true) : Fr fs cs τ v := fun a b hf => by
  rw [h' a b ?_]
  · exact h a b hf
  · rw [Bool.and_eq_true, List.all_eq_true, List.all_eq_true] at hz
    unfold fz
    rw [Bool.or_eq_false_iff]
    constructor
    · rw [Bool.eq_false_iff]
      intro hc
      obtain ⟨q, hq, hab⟩ := List.any_eq_true.mp hc
      rw [Bool.and_eq_true, beq_iff_eq, beq_iff_eq] at hab
      have := hz.1 q hq
      rw [hab.1, hab.2, hf] at this; cases this
    · rw [Bool.eq_false_iff]
      intro hc
      obtain ⟨k, hk, hab⟩ := List.any_eq_true.mp hc
      rw [beq_iff_eq] at hab
      have := hz.2 k hk
      rw [hab] at this
      unfold fz at hf
      rw [this, Bool.or_true] at hf; cases hf
/-! intervals -/
theorem R_of {x : Int32} {a b lo hi : Int} (h : R a b x) (hd : decide (lo ≤ a ∧ b ≤ hi) = true) : R lo hi x := by
  have hd := of_decide_eq_true hd; exact ⟨by omega, by omega⟩
theorem R_eq {x : Int32} {n : Int} (h : x.toInt = n) : R n n x := ⟨by omega, by omega⟩
theorem R_any (x : Int32) : R (-2147483648) 2147483647 x := ⟨Int32.le_toInt x, Int32.toInt_le x⟩
theorem i_add {x y z : Int32} {a b c d lo hi : Int} (h : z = x + y) (hx : R a b x) (hy : R c d y) (hd : decide (lo ≤ a + c ∧ b + d ≤ hi ∧ -2147483648 ≤ lo ∧ hi ≤ 2147483647) = true) : z.toInt = x.toInt + y.toInt ∧ R lo hi z := by
  have hd := of_decide_eq_true hd
  have e : z.toInt = x.toInt + y.toInt := by
    rw [h, Int32.toInt_add, Int.bmod_eq_of_le (by omega) (by omega)]
  exact ⟨e, by omega, by omega⟩
theorem i_sub {x y z : Int32} {a b c d lo hi : Int} (h : z = x - y) (hx : R a b x) (hy : R c d y) (hd : decide (lo ≤ a - d ∧ b - c ≤ hi ∧ -2147483648 ≤ lo ∧ hi ≤ 2147483647) = true) : z.toInt = x.toInt - y.toInt ∧ R lo hi z := by
  have hd := of_decide_eq_true hd
  have e : z.toInt = x.toInt - y.toInt := by
    rw [h, Int32.toInt_sub, Int.bmod_eq_of_le (by omega) (by omega)]
  exact ⟨e, by omega, by omega⟩
theorem mul_in {u v a b c d lo hi : Int} (h1 : a ≤ u) (h2 : u ≤ b) (h3 : c ≤ v) (h4 : v ≤ d) (hd : lo ≤ a * c ∧ lo ≤ a * d ∧ lo ≤ b * c ∧ lo ≤ b * d ∧ a * c ≤ hi ∧ a * d ≤ hi ∧ b * c ≤ hi ∧ b * d ≤ hi) : lo ≤ u * v ∧ u * v ≤ hi := by
  have key : ∀ w : Int, c ≤ w → w ≤ d → ∀ t, (t = a ∨ t = b) → lo ≤ t * w ∧ t * w ≤ hi := by
    intro w hc hw t ht
    rcases Int.le_total 0 t with h | h
    · have p1 := Int.mul_le_mul_of_nonneg_left hc h
      have p2 := Int.mul_le_mul_of_nonneg_left hw h
      rcases ht with rfl | rfl <;> omega
    · have p1 := Int.mul_le_mul_of_nonpos_left h hc
      have p2 := Int.mul_le_mul_of_nonpos_left h hw
      rcases ht with rfl | rfl <;> omega
  have ka := key v h3 h4 a (Or.inl rfl)
  have kb := key v h3 h4 b (Or.inr rfl)
  rcases Int.le_total 0 v with h | h
  · have p1 := Int.mul_le_mul_of_nonneg_right h1 h
    have p2 := Int.mul_le_mul_of_nonneg_right h2 h
    omega
  · have p1 := Int.mul_le_mul_of_nonpos_right h1 h
    have p2 := Int.mul_le_mul_of_nonpos_right h2 h
    omega
theorem i_mul {x y z : Int32} {a b c d lo hi : Int} (h : z = x * y) (hx : R a b x) (hy : R c d y) (hd : decide (lo ≤ a * c ∧ lo ≤ a * d ∧ lo ≤ b * c ∧ lo ≤ b * d ∧ a * c ≤ hi ∧ a * d ≤ hi ∧ b * c ≤ hi ∧ b * d ≤ hi) = true) (hr : decide (-2147483648 ≤ lo ∧ hi ≤ 2147483647) = true) : z.toInt = x.toInt * y.toInt ∧ R lo hi z := by
  have hd := of_decide_eq_true hd
  have hr := of_decide_eq_true hr
  have k := mul_in hx.1 hx.2 hy.1 hy.2 hd
  have e : z.toInt = x.toInt * y.toInt := by
    rw [h, Int32.toInt_mul, Int.bmod_eq_of_le (by omega) (by omega)]
  exact ⟨e, by rw [e]; exact k.1, by rw [e]; exact k.2⟩

section RW
variable {p : Program} {l : Launch} {e : Env} {Rr : Room} {s : State} {m : MethodId} {args : Array Value} {below : List Frame} {meth : Method} {c : Code} {H : Heap} {locs : List Loc} {cells slots : Nat} {Q : State → Prop}
variable {cc : ByteArray} {nL pc : Nat} {ls : Array Slot} {rest : List Value} {G : Gx} {own : String} {τ : Tau}
theorem r_iconst {n : Int} (S : Sx G p m c cc nL s args own) (hdg : decode cc pc = .ok (.iconst n, 1)) (hn : (Int32.ofInt n).toInt = n) (kk : ∀ v : Int32, v.toInt = n → W p l e Rr s m args below meth c H locs cells slots Q (F0 m (pc + 1) ls (.int v :: rest))) : W p l e Rr s m args below meth c H locs cells slots Q (F0 m pc ls (rest)) := lv_iconst S.1.1 S.1.2.1 hdg rfl (kk _ hn)
theorem r_bipush {n : Int} (S : Sx G p m c cc nL s args own) (hdg : decode cc pc = .ok (.bipush n, 2)) (hn : (Int8.ofInt n).toInt32.toInt = n) (kk : ∀ v : Int32, v.toInt = n → W p l e Rr s m args below meth c H locs cells slots Q (F0 m (pc + 2) ls (.int v :: rest))) : W p l e Rr s m args below meth c H locs cells slots Q (F0 m pc ls (rest)) := lv_bipush S.1.1 S.1.2.1 hdg rfl (kk _ hn)
theorem r_sipush {n : Int} (S : Sx G p m c cc nL s args own) (hdg : decode cc pc = .ok (.sipush n, 3)) (hn : (Int16.ofInt n).toInt32.toInt = n) (kk : ∀ v : Int32, v.toInt = n → W p l e Rr s m args below meth c H locs cells slots Q (F0 m (pc + 3) ls (.int v :: rest))) : W p l e Rr s m args below meth c H locs cells slots Q (F0 m pc ls (rest)) := lv_sipush S.1.1 S.1.2.1 hdg rfl (kk _ hn)
theorem r_iload_n {k : Fin 4} {i : Nat} {x : Int32} (S : Sx G p m c cc nL s args own) (hdg : decode cc pc = .ok (.iload_n k, 1)) (hi : (k : Nat) = i) (hl : ls[i]? = some (.val (.int x))) (kk : W p l e Rr s m args below meth c H locs cells slots Q (F0 m (pc + 1) ls (.int x :: rest))) : W p l e Rr s m args below meth c H locs cells slots Q (F0 m pc ls (rest)) := lv_iload_n S.1.1 S.1.2.1 hdg hi hl kk
theorem r_iload {i : Nat} {x : Int32} (S : Sx G p m c cc nL s args own) (hdg : decode cc pc = .ok (.iload i, 2)) (hl : ls[i]? = some (.val (.int x))) (kk : W p l e Rr s m args below meth c H locs cells slots Q (F0 m (pc + 2) ls (.int x :: rest))) : W p l e Rr s m args below meth c H locs cells slots Q (F0 m pc ls (rest)) := lv_iload S.1.1 S.1.2.1 hdg hl kk
theorem r_aload_n {k : Fin 4} {i : Nat} {x : Nat} (S : Sx G p m c cc nL s args own) (hdg : decode cc pc = .ok (.aload_n k, 1)) (hi : (k : Nat) = i) (hl : ls[i]? = some (.val (.ref x))) (kk : W p l e Rr s m args below meth c H locs cells slots Q (F0 m (pc + 1) ls (.ref x :: rest))) : W p l e Rr s m args below meth c H locs cells slots Q (F0 m pc ls (rest)) := lv_aload_n S.1.1 S.1.2.1 hdg hi hl kk
theorem r_aload {i : Nat} {x : Nat} (S : Sx G p m c cc nL s args own) (hdg : decode cc pc = .ok (.aload i, 2)) (hl : ls[i]? = some (.val (.ref x))) (kk : W p l e Rr s m args below meth c H locs cells slots Q (F0 m (pc + 2) ls (.ref x :: rest))) : W p l e Rr s m args below meth c H locs cells slots Q (F0 m pc ls (rest)) := lv_aload S.1.1 S.1.2.1 hdg hl kk
theorem r_istore_n {k : Fin 4} {i : Nat} {x : Int32} {lv lv' : List (Nat × Value)} (S : Sx G p m c cc nL s args own) (hdg : decode cc pc = .ok (.istore_n k, 1)) (hi : (k : Nat) = i) (h : lv_has ls nL lv) (hn : i < nL) (hl : (i, Value.int x) :: lv.filter (fun q => !(q.1 == i) && !(q.1 + 1 == i && q.2.category == 2)) = lv') (kk : ∀ ls : Array Slot, lv_has ls nL lv' → W p l e Rr s m args below meth c H locs cells slots Q (F0 m (pc + 1) ls (rest))) : W p l e Rr s m args below meth c H locs cells slots Q (F0 m pc ls (.int x :: rest)) := lv_istore_n S.1.1 S.1.2.1 hdg hi h hn hl kk
theorem r_astore_n {k : Fin 4} {i : Nat} {x : Nat} {lv lv' : List (Nat × Value)} (S : Sx G p m c cc nL s args own) (hdg : decode cc pc = .ok (.astore_n k, 1)) (hi : (k : Nat) = i) (h : lv_has ls nL lv) (hn : i < nL) (hl : (i, Value.ref x) :: lv.filter (fun q => !(q.1 == i) && !(q.1 + 1 == i && q.2.category == 2)) = lv') (kk : ∀ ls : Array Slot, lv_has ls nL lv' → W p l e Rr s m args below meth c H locs cells slots Q (F0 m (pc + 1) ls (rest))) : W p l e Rr s m args below meth c H locs cells slots Q (F0 m pc ls (.ref x :: rest)) := lv_astore_n S.1.1 S.1.2.1 hdg hi h hn hl kk
theorem r_istore {i : Nat} {x : Int32} {lv lv' : List (Nat × Value)} (S : Sx G p m c cc nL s args own) (hdg : decode cc pc = .ok (.istore i, 2)) (h : lv_has ls nL lv) (hn : i < nL) (hl : (i, Value.int x) :: lv.filter (fun q => !(q.1 == i) && !(q.1 + 1 == i && q.2.category == 2)) = lv') (kk : ∀ ls : Array Slot, lv_has ls nL lv' → W p l e Rr s m args below meth c H locs cells slots Q (F0 m (pc + 2) ls (rest))) : W p l e Rr s m args below meth c H locs cells slots Q (F0 m pc ls (.int x :: rest)) := lv_istore S.1.1 S.1.2.1 hdg h hn hl kk
theorem r_astore {i : Nat} {x : Nat} {lv lv' : List (Nat × Value)} (S : Sx G p m c cc nL s args own) (hdg : decode cc pc = .ok (.astore i, 2)) (h : lv_has ls nL lv) (hn : i < nL) (hl : (i, Value.ref x) :: lv.filter (fun q => !(q.1 == i) && !(q.1 + 1 == i && q.2.category == 2)) = lv') (kk : ∀ ls : Array Slot, lv_has ls nL lv' → W p l e Rr s m args below meth c H locs cells slots Q (F0 m (pc + 2) ls (rest))) : W p l e Rr s m args below meth c H locs cells slots Q (F0 m pc ls (.ref x :: rest)) := lv_astore S.1.1 S.1.2.1 hdg h hn hl kk
theorem r_iinc {i k : Nat} {n : Int} {x : Int32} {lv : List (Nat × Value)} (S : Sx G p m c cc nL s args own) (hdg : decode cc pc = .ok (.iinc i n, 3)) (h : lv_has ls nL lv) (hk : lv[k]? = some (i, .int x)) (hn : i < nL) (hc : (Int32.ofInt n).toInt = n) (kk : ∀ (v d : Int32) (ls : Array Slot), v = x + d → d.toInt = n → lv_has ls nL ((i, Value.int v) :: lv.filter (fun q => !(q.1 == i) && !(q.1 + 1 == i && q.2.category == 2))) → W p l e Rr s m args below meth c H locs cells slots Q (F0 m (pc + 3) ls (rest))) : W p l e Rr s m args below meth c H locs cells slots Q (F0 m pc ls (rest)) := lv_iinc S.1.1 S.1.2.1 hdg h hk rfl hn rfl (fun ls hl => kk _ (Int32.ofInt n) ls rfl hc hl)
theorem r_iadd {x y : Int32} (S : Sx G p m c cc nL s args own) (hdg : decode cc pc = .ok (.iadd, 1)) (kk : ∀ z : Int32, z = x + y → W p l e Rr s m args below meth c H locs cells slots Q (F0 m (pc + 1) ls (.int z :: rest))) : W p l e Rr s m args below meth c H locs cells slots Q (F0 m pc ls (.int y :: .int x :: rest)) := lv_iadd S.1.1 S.1.2.1 hdg (kk _ rfl)
theorem r_isub {x y : Int32} (S : Sx G p m c cc nL s args own) (hdg : decode cc pc = .ok (.isub, 1)) (kk : ∀ z : Int32, z = x - y → W p l e Rr s m args below meth c H locs cells slots Q (F0 m (pc + 1) ls (.int z :: rest))) : W p l e Rr s m args below meth c H locs cells slots Q (F0 m pc ls (.int y :: .int x :: rest)) := lv_isub S.1.1 S.1.2.1 hdg (kk _ rfl)
theorem r_imul {x y : Int32} (S : Sx G p m c cc nL s args own) (hdg : decode cc pc = .ok (.imul, 1)) (kk : ∀ z : Int32, z = x * y → W p l e Rr s m args below meth c H locs cells slots Q (F0 m (pc + 1) ls (.int z :: rest))) : W p l e Rr s m args below meth c H locs cells slots Q (F0 m pc ls (.int y :: .int x :: rest)) := lv_imul S.1.1 S.1.2.1 hdg (kk _ rfl)
theorem r_iand {x y : Int32} (S : Sx G p m c cc nL s args own) (hdg : decode cc pc = .ok (.iand, 1)) (kk : ∀ z : Int32, z = x &&& y → W p l e Rr s m args below meth c H locs cells slots Q (F0 m (pc + 1) ls (.int z :: rest))) : W p l e Rr s m args below meth c H locs cells slots Q (F0 m pc ls (.int y :: .int x :: rest)) := lv_iand S.1.1 S.1.2.1 hdg (kk _ rfl)
theorem r_ior {x y : Int32} (S : Sx G p m c cc nL s args own) (hdg : decode cc pc = .ok (.ior, 1)) (kk : ∀ z : Int32, z = x ||| y → W p l e Rr s m args below meth c H locs cells slots Q (F0 m (pc + 1) ls (.int z :: rest))) : W p l e Rr s m args below meth c H locs cells slots Q (F0 m pc ls (.int y :: .int x :: rest)) := lv_ior S.1.1 S.1.2.1 hdg (kk _ rfl)
theorem r_ixor {x y : Int32} (S : Sx G p m c cc nL s args own) (hdg : decode cc pc = .ok (.ixor, 1)) (kk : ∀ z : Int32, z = x ^^^ y → W p l e Rr s m args below meth c H locs cells slots Q (F0 m (pc + 1) ls (.int z :: rest))) : W p l e Rr s m args below meth c H locs cells slots Q (F0 m pc ls (.int y :: .int x :: rest)) := lv_ixor S.1.1 S.1.2.1 hdg (kk _ rfl)
theorem r_ishl {x y : Int32} (S : Sx G p m c cc nL s args own) (hdg : decode cc pc = .ok (.ishl, 1)) (kk : ∀ z : Int32, z = x <<< (y &&& 31) → W p l e Rr s m args below meth c H locs cells slots Q (F0 m (pc + 1) ls (.int z :: rest))) : W p l e Rr s m args below meth c H locs cells slots Q (F0 m pc ls (.int y :: .int x :: rest)) := lv_ishl S.1.1 S.1.2.1 hdg (kk _ rfl)
theorem r_ishr {x y : Int32} (S : Sx G p m c cc nL s args own) (hdg : decode cc pc = .ok (.ishr, 1)) (kk : ∀ z : Int32, z = x >>> (y &&& 31) → W p l e Rr s m args below meth c H locs cells slots Q (F0 m (pc + 1) ls (.int z :: rest))) : W p l e Rr s m args below meth c H locs cells slots Q (F0 m pc ls (.int y :: .int x :: rest)) := lv_ishr S.1.1 S.1.2.1 hdg (kk _ rfl)
theorem r_iushr {x y : Int32} (S : Sx G p m c cc nL s args own) (hdg : decode cc pc = .ok (.iushr, 1)) (kk : ∀ z : Int32, z = (x.toUInt32 >>> (y.toUInt32 &&& Int32.toUInt32 31)).toInt32 → W p l e Rr s m args below meth c H locs cells slots Q (F0 m (pc + 1) ls (.int z :: rest))) : W p l e Rr s m args below meth c H locs cells slots Q (F0 m pc ls (.int y :: .int x :: rest)) := lv_iushr S.1.1 S.1.2.1 hdg rfl (kk _ rfl)
theorem r_idiv {x y : Int32} (S : Sx G p m c cc nL s args own) (hdg : decode cc pc = .ok (.idiv, 1)) (hne : y.toInt ≠ 0) (kk : ∀ z : Int32, z = x / y → W p l e Rr s m args below meth c H locs cells slots Q (F0 m (pc + 1) ls (.int z :: rest))) : W p l e Rr s m args below meth c H locs cells slots Q (F0 m pc ls (.int y :: .int x :: rest)) := lv_idiv S.1.1 S.1.2.1 hdg (fun h => hne (by rw [h]; rfl)) (kk _ rfl)
theorem r_irem {x y : Int32} (S : Sx G p m c cc nL s args own) (hdg : decode cc pc = .ok (.irem, 1)) (hne : y.toInt ≠ 0) (kk : ∀ z : Int32, z = x - x / y * y → W p l e Rr s m args below meth c H locs cells slots Q (F0 m (pc + 1) ls (.int z :: rest))) : W p l e Rr s m args below meth c H locs cells slots Q (F0 m pc ls (.int y :: .int x :: rest)) := lv_irem S.1.1 S.1.2.1 hdg (fun h => hne (by rw [h]; rfl)) (kk _ rfl)
theorem r_ineg {x : Int32} (S : Sx G p m c cc nL s args own) (hdg : decode cc pc = .ok (.ineg, 1)) (kk : ∀ z : Int32, z = -x → W p l e Rr s m args below meth c H locs cells slots Q (F0 m (pc + 1) ls (.int z :: rest))) : W p l e Rr s m args below meth c H locs cells slots Q (F0 m pc ls (.int x :: rest)) := lv_ineg S.1.1 S.1.2.1 hdg (kk _ rfl)
theorem tI_eq {x y : Int32} : x = y ↔ x.toInt = y.toInt := Int32.toInt_inj.symm
theorem tI_0 : (0 : Int32).toInt = 0 := rfl
theorem r_if_eq {x : Int32} {off : Int} {tgt : Nat} (S : Sx G p m c cc nL s args own) (hdg : decode cc pc = .ok (.ifCond .eq off, 3)) (ht : (pc : Int) + off = (tgt : Int)) (kt : x.toInt = 0 → W p l e Rr s m args below meth c H locs cells slots Q (F0 m tgt ls (rest))) (kf : x.toInt ≠ 0 → W p l e Rr s m args below meth c H locs cells slots Q (F0 m (pc + 3) ls (rest))) : W p l e Rr s m args below meth c H locs cells slots Q (F0 m pc ls (.int x :: rest)) := lv_if_eq S.1.1 S.1.2.1 hdg ht (fun h => kt (tI_eq.mp h)) (fun h => kf (fun q => h (tI_eq.mpr q)))
theorem r_if_ne {x : Int32} {off : Int} {tgt : Nat} (S : Sx G p m c cc nL s args own) (hdg : decode cc pc = .ok (.ifCond .ne off, 3)) (ht : (pc : Int) + off = (tgt : Int)) (kt : x.toInt ≠ 0 → W p l e Rr s m args below meth c H locs cells slots Q (F0 m tgt ls (rest))) (kf : x.toInt = 0 → W p l e Rr s m args below meth c H locs cells slots Q (F0 m (pc + 3) ls (rest))) : W p l e Rr s m args below meth c H locs cells slots Q (F0 m pc ls (.int x :: rest)) := lv_if_ne S.1.1 S.1.2.1 hdg ht (fun h => kt (fun q => h (tI_eq.mpr q))) (fun h => kf (tI_eq.mp h))
theorem r_if_lt {x : Int32} {off : Int} {tgt : Nat} (S : Sx G p m c cc nL s args own) (hdg : decode cc pc = .ok (.ifCond .lt off, 3)) (ht : (pc : Int) + off = (tgt : Int)) (kt : x.toInt < 0 → W p l e Rr s m args below meth c H locs cells slots Q (F0 m tgt ls (rest))) (kf : 0 ≤ x.toInt → W p l e Rr s m args below meth c H locs cells slots Q (F0 m (pc + 3) ls (rest))) : W p l e Rr s m args below meth c H locs cells slots Q (F0 m pc ls (.int x :: rest)) := lv_if_lt S.1.1 S.1.2.1 hdg ht (fun h => kt (Int32.lt_iff_toInt_lt.mp h)) (fun h => kf (Int.not_lt.mp fun q => h (Int32.lt_iff_toInt_lt.mpr q)))
theorem r_if_ge {x : Int32} {off : Int} {tgt : Nat} (S : Sx G p m c cc nL s args own) (hdg : decode cc pc = .ok (.ifCond .ge off, 3)) (ht : (pc : Int) + off = (tgt : Int)) (kt : 0 ≤ x.toInt → W p l e Rr s m args below meth c H locs cells slots Q (F0 m tgt ls (rest))) (kf : x.toInt < 0 → W p l e Rr s m args below meth c H locs cells slots Q (F0 m (pc + 3) ls (rest))) : W p l e Rr s m args below meth c H locs cells slots Q (F0 m pc ls (.int x :: rest)) := lv_if_ge S.1.1 S.1.2.1 hdg ht (fun h => kt (Int32.le_iff_toInt_le.mp h)) (fun h => kf (Int.not_le.mp fun q => h (Int32.le_iff_toInt_le.mpr q)))
theorem r_if_gt {x : Int32} {off : Int} {tgt : Nat} (S : Sx G p m c cc nL s args own) (hdg : decode cc pc = .ok (.ifCond .gt off, 3)) (ht : (pc : Int) + off = (tgt : Int)) (kt : 0 < x.toInt → W p l e Rr s m args below meth c H locs cells slots Q (F0 m tgt ls (rest))) (kf : x.toInt ≤ 0 → W p l e Rr s m args below meth c H locs cells slots Q (F0 m (pc + 3) ls (rest))) : W p l e Rr s m args below meth c H locs cells slots Q (F0 m pc ls (.int x :: rest)) := lv_if_gt S.1.1 S.1.2.1 hdg ht (fun h => kt (Int32.lt_iff_toInt_lt.mp h)) (fun h => kf (Int.not_lt.mp fun q => h (Int32.lt_iff_toInt_lt.mpr q)))
theorem r_if_le {x : Int32} {off : Int} {tgt : Nat} (S : Sx G p m c cc nL s args own) (hdg : decode cc pc = .ok (.ifCond .le off, 3)) (ht : (pc : Int) + off = (tgt : Int)) (kt : x.toInt ≤ 0 → W p l e Rr s m args below meth c H locs cells slots Q (F0 m tgt ls (rest))) (kf : 0 < x.toInt → W p l e Rr s m args below meth c H locs cells slots Q (F0 m (pc + 3) ls (rest))) : W p l e Rr s m args below meth c H locs cells slots Q (F0 m pc ls (.int x :: rest)) := lv_if_le S.1.1 S.1.2.1 hdg ht (fun h => kt (Int32.le_iff_toInt_le.mp h)) (fun h => kf (Int.not_le.mp fun q => h (Int32.le_iff_toInt_le.mpr q)))
theorem r_icmp_eq {x y : Int32} {off : Int} {tgt : Nat} (S : Sx G p m c cc nL s args own) (hdg : decode cc pc = .ok (.if_icmp .eq off, 3)) (ht : (pc : Int) + off = (tgt : Int)) (kt : x.toInt = y.toInt → W p l e Rr s m args below meth c H locs cells slots Q (F0 m tgt ls (rest))) (kf : x.toInt ≠ y.toInt → W p l e Rr s m args below meth c H locs cells slots Q (F0 m (pc + 3) ls (rest))) : W p l e Rr s m args below meth c H locs cells slots Q (F0 m pc ls (.int y :: .int x :: rest)) := lv_icmp_eq S.1.1 S.1.2.1 hdg ht (fun h => kt (tI_eq.mp h)) (fun h => kf (fun q => h (tI_eq.mpr q)))
theorem r_icmp_ne {x y : Int32} {off : Int} {tgt : Nat} (S : Sx G p m c cc nL s args own) (hdg : decode cc pc = .ok (.if_icmp .ne off, 3)) (ht : (pc : Int) + off = (tgt : Int)) (kt : x.toInt ≠ y.toInt → W p l e Rr s m args below meth c H locs cells slots Q (F0 m tgt ls (rest))) (kf : x.toInt = y.toInt → W p l e Rr s m args below meth c H locs cells slots Q (F0 m (pc + 3) ls (rest))) : W p l e Rr s m args below meth c H locs cells slots Q (F0 m pc ls (.int y :: .int x :: rest)) := lv_icmp_ne S.1.1 S.1.2.1 hdg ht (fun h => kt (fun q => h (tI_eq.mpr q))) (fun h => kf (tI_eq.mp h))
theorem r_icmp_lt {x y : Int32} {off : Int} {tgt : Nat} (S : Sx G p m c cc nL s args own) (hdg : decode cc pc = .ok (.if_icmp .lt off, 3)) (ht : (pc : Int) + off = (tgt : Int)) (kt : x.toInt < y.toInt → W p l e Rr s m args below meth c H locs cells slots Q (F0 m tgt ls (rest))) (kf : y.toInt ≤ x.toInt → W p l e Rr s m args below meth c H locs cells slots Q (F0 m (pc + 3) ls (rest))) : W p l e Rr s m args below meth c H locs cells slots Q (F0 m pc ls (.int y :: .int x :: rest)) := lv_icmp_lt S.1.1 S.1.2.1 hdg ht (fun h => kt (Int32.lt_iff_toInt_lt.mp h)) (fun h => kf (Int.not_lt.mp fun q => h (Int32.lt_iff_toInt_lt.mpr q)))
theorem r_icmp_ge {x y : Int32} {off : Int} {tgt : Nat} (S : Sx G p m c cc nL s args own) (hdg : decode cc pc = .ok (.if_icmp .ge off, 3)) (ht : (pc : Int) + off = (tgt : Int)) (kt : y.toInt ≤ x.toInt → W p l e Rr s m args below meth c H locs cells slots Q (F0 m tgt ls (rest))) (kf : x.toInt < y.toInt → W p l e Rr s m args below meth c H locs cells slots Q (F0 m (pc + 3) ls (rest))) : W p l e Rr s m args below meth c H locs cells slots Q (F0 m pc ls (.int y :: .int x :: rest)) := lv_icmp_ge S.1.1 S.1.2.1 hdg ht (fun h => kt (Int32.le_iff_toInt_le.mp h)) (fun h => kf (Int.not_le.mp fun q => h (Int32.le_iff_toInt_le.mpr q)))
theorem r_icmp_gt {x y : Int32} {off : Int} {tgt : Nat} (S : Sx G p m c cc nL s args own) (hdg : decode cc pc = .ok (.if_icmp .gt off, 3)) (ht : (pc : Int) + off = (tgt : Int)) (kt : y.toInt < x.toInt → W p l e Rr s m args below meth c H locs cells slots Q (F0 m tgt ls (rest))) (kf : x.toInt ≤ y.toInt → W p l e Rr s m args below meth c H locs cells slots Q (F0 m (pc + 3) ls (rest))) : W p l e Rr s m args below meth c H locs cells slots Q (F0 m pc ls (.int y :: .int x :: rest)) := lv_icmp_gt S.1.1 S.1.2.1 hdg ht (fun h => kt (Int32.lt_iff_toInt_lt.mp h)) (fun h => kf (Int.not_lt.mp fun q => h (Int32.lt_iff_toInt_lt.mpr q)))
theorem r_icmp_le {x y : Int32} {off : Int} {tgt : Nat} (S : Sx G p m c cc nL s args own) (hdg : decode cc pc = .ok (.if_icmp .le off, 3)) (ht : (pc : Int) + off = (tgt : Int)) (kt : x.toInt ≤ y.toInt → W p l e Rr s m args below meth c H locs cells slots Q (F0 m tgt ls (rest))) (kf : y.toInt < x.toInt → W p l e Rr s m args below meth c H locs cells slots Q (F0 m (pc + 3) ls (rest))) : W p l e Rr s m args below meth c H locs cells slots Q (F0 m pc ls (.int y :: .int x :: rest)) := lv_icmp_le S.1.1 S.1.2.1 hdg ht (fun h => kt (Int32.le_iff_toInt_le.mp h)) (fun h => kf (Int.not_le.mp fun q => h (Int32.le_iff_toInt_le.mpr q)))
theorem r_goto {off : Int} {tgt : Nat} (S : Sx G p m c cc nL s args own) (hdg : decode cc pc = .ok (.goto off, 3)) (ht : (pc : Int) + off = (tgt : Int)) (kk : W p l e Rr s m args below meth c H locs cells slots Q (F0 m tgt ls (rest))) : W p l e Rr s m args below meth c H locs cells slots Q (F0 m pc ls (rest)) := lv_goto S.1.1 S.1.2.1 hdg ht kk
theorem r_dup {va : Value} (S : Sx G p m c cc nL s args own) (hdg : decode cc pc = .ok (.dup, 1)) (hva : va.category = 1) (kk : W p l e Rr s m args below meth c H locs cells slots Q (F0 m (pc + 1) ls (va :: va :: rest))) : W p l e Rr s m args below meth c H locs cells slots Q (F0 m pc ls (va :: rest)) := lv_dup S.1.1 S.1.2.1 hdg hva kk
theorem r_dup2 {va vb : Value} (S : Sx G p m c cc nL s args own) (hdg : decode cc pc = .ok (.dup2, 1)) (hva : va.category = 1) (hvb : vb.category = 1) (kk : W p l e Rr s m args below meth c H locs cells slots Q (F0 m (pc + 1) ls (va :: vb :: va :: vb :: rest))) : W p l e Rr s m args below meth c H locs cells slots Q (F0 m pc ls (va :: vb :: rest)) := lv_dup2_11 S.1.1 S.1.2.1 hdg hva hvb kk
theorem r_pop {va : Value} (S : Sx G p m c cc nL s args own) (hdg : decode cc pc = .ok (.pop, 1)) (hva : va.category = 1) (kk : W p l e Rr s m args below meth c H locs cells slots Q (F0 m (pc + 1) ls (rest))) : W p l e Rr s m args below meth c H locs cells slots Q (F0 m pc ls (va :: rest)) := lv_pop S.1.1 S.1.2.1 hdg hva kk
end RW

theorem tbl_good {w : Cond} (h : w ∈ tbg) : goodWord w = true := (List.mem_filter.mp h).2
theorem good_ws {y : MethodName} {b : ByteArray} {n : Nat} {r : Option FieldType} (h : Cond.code y b n r ∈ tbg) : GoodIn tbg (Ws y b n r) := fun w hw => by
  have hm : w ∈ tbg := by
    rcases List.mem_cons.mp hw with rfl | h2
    · exact h
    · exact h2
  exact ⟨hm, good_of_word (tbl_good hm)⟩
def CkB (own : String) (index : Nat) (y : MethodName) (bytes : ByteArray) (maxL : Nat) (ret : Option FieldType) (n : Nat) : Prop := Cond.methodLink own index y ∈ tbg ∧ Cond.initialized y.cls ∈ tbg ∧ Cond.code y bytes maxL ret ∈ tbg ∧ (y.cls ≠ "java/lang/invoke/MethodHandle" ∧ y.cls ≠ "java/lang/invoke/VarHandle" ∧ (parseMethodDescriptor y.desc).map (fun d => d.parameters.length) = some n)
def CkV (own : String) (index : Nat) (y : MethodName) (bytes : ByteArray) (maxL : Nat) (ret : Option FieldType) (n : Nat) : Prop := CkB own index y bytes maxL ret n ∧ Cond.instanceMethod y ∈ tbg ∧ Cond.selects y.cls y y ∈ tbg
def CkS (own : String) (index : Nat) (y : MethodName) (bytes : ByteArray) (maxL : Nat) (ret : Option FieldType) (n : Nat) : Prop := CkB own index y bytes maxL ret n ∧ Cond.static y ∈ tbg
def CkN (own : String) (index : Nat) (y : MethodName) (host : String) (bytes : ByteArray) (maxL : Nat) (ret : Option FieldType) (n : Nat) : Prop := (own, index, y, host) ∈ nstL ∧ Cond.initialized y.cls ∈ tbg ∧ Cond.code y bytes maxL ret ∈ tbg ∧ (y.cls ≠ "java/lang/invoke/MethodHandle" ∧ y.cls ≠ "java/lang/invoke/VarHandle" ∧ (parseMethodDescriptor y.desc).map (fun d => d.parameters.length) = some n) ∧ Cond.static y ∈ tbg
/-- an inherited method of a super class, called on a receiver of class C -/
def CkU (own C owner : String) (index : Nat) (x y : MethodName) (bytes : ByteArray) (maxL : Nat) (ret : Option FieldType) (n : Nat) : Prop := Cond.methodLink own index x ∈ tbg ∧ Cond.sameMethod x.cls owner x.name x.desc ∈ tbg ∧ Cond.selects C x y ∈ tbg ∧ Cond.instanceMethod y ∈ tbg ∧ Cond.initialized y.cls ∈ tbg ∧ Cond.code y bytes maxL ret ∈ tbg ∧ y = ⟨owner, x.name, x.desc⟩ ∧ (owner ≠ "java/lang/invoke/MethodHandle" ∧ owner ≠ "java/lang/invoke/VarHandle" ∧ (parseMethodDescriptor x.desc).map (fun d => d.parameters.length) = some n)
section RC
variable {p : Program} {l : Launch} {e : Env} {Rr : Room} {s : State} {m : MethodId} {args : Array Value} {below : List Frame} {meth : Method} {c : Code} {H : Heap} {locs : List Loc} {cells slots : Nat} {Q : State → Prop}
variable {cc : ByteArray} {nL pc : Nat} {ls : Array Slot} {rest st As : List Value} {G : Gx} {own : String} {τ : Tau}
variable {y : MethodName} {bytes : ByteArray} {maxL n index f w k K ci : Nat} {ret : Option FieldType} {Qc : Array Value → State → Outcome → State → Prop}
theorem r_getn {j : Nat} (S : Sx G p m c cc nL s args own) (X : Xd G s H locs τ) (hk : k < NC) (hkd : kd k = K) (lk : Lk own index ci j) (hs : ∀ q, ∃ fs, (shL G k (τ k) q)[K]? = some (.inr (ci, fs)) ∧ fs[j]? = some (.int (τ k j))) (hdg : decode cc pc = .ok (.getfield index, 3))
    (kk : ∀ x : Int32, τ k j = x → W p l e Rr s m args below meth c H locs cells slots Q (F0 m (pc + 3) ls (.int x :: rest))) : W p l e Rr s m args below meth c H locs cells slots Q (F0 m pc ls (.ref (G.2.2.2.1 k) :: rest)) := r_get S X hk hkd lk hs hdg (kk _ rfl)
theorem r_geti {j : Nat} {x : Int32} (S : Sx G p m c cc nL s args own) (X : Xd G s H locs τ) (hk : k < NC) (hkd : kd k = K) (lk : Lk own index ci j) (hs : ∀ q, ∃ fs, (shL G k (τ k) q)[K]? = some (.inr (ci, fs)) ∧ fs[j]? = some (.int (τ k j))) (hx : τ k j = x) (hdg : decode cc pc = .ok (.getfield index, 3))
    (kk : W p l e Rr s m args below meth c H locs cells slots Q (F0 m (pc + 3) ls (.int x :: rest))) : W p l e Rr s m args below meth c H locs cells slots Q (F0 m pc ls (.ref (G.2.2.2.1 k) :: rest)) := r_get S X hk hkd lk hs hdg (hx ▸ kk)
theorem q_V (S : Sx G p m c cc nL s args own) (X : Xd G s H locs τ) (hM : Met l y (Ws y bytes maxL ret) (Rm f w) (va_Pc (.ref (G.2.2.2.1 k) :: As) (Bs G τ)) Qc 0 0 G.2.2.2.2) (ck : CkV own index y bytes maxL ret n) (hk : k < NC) (hkd : kd k = K) (hs : ∀ q, ∃ fs, (shL G k (τ k) q)[K]? = some (.inr (ci, fs))) (hci : ∃ T N, vwCl[ci]? = some (y.cls, T, N))
    (hR : f + 1 ≤ Rr.frames ∧ 8 + (maxL + 11) + w ≤ Rr.locals) (hn : As.length = n) (hsz : ls.size = nL) (hst : st = As.reverse ++ .ref (G.2.2.2.1 k) :: rest) (hrest : (rest.map fun v => v.category).sum ≤ 8) (hdg : decode cc pc = .ok (.invokevirtual index, 3)) (hf : cells ≤ Rr.cells ∧ slots ≤ Rr.slots) :
    va_Run p l e Rr s m args below meth c H locs cells slots 0 0 (F0 m pc ls st) rest (Qc (Value.ref (G.2.2.2.1 k) :: As).toArray) G.2.2.2.2 := by
  obtain ⟨⟨c1, c2, c3, c4⟩, c5, c6⟩ := ck
  have hts := S.1.2.2.2.2
  obtain ⟨q, hq, hP⟩ := X.1
  obtain ⟨fs, h1⟩ := hs (q k)
  obtain ⟨T, N, hci⟩ := hci
  have hw : (wl G τ q)[k]? = some (G.2.2.2.1 k, .inr (ci, fs)) := by rw [wl_at hk, sh_of hkd h1]
  exact va_runV S.1 hM ⟨callB_of n hts (good_ws c3) rfl rfl rfl (hts _ c2) (hts _ c1) c4 hR, hts _ c5, hts _ c6⟩ ⟨Bs_blind, va_recv S.2.1 hP hci hw, fun U hU hW => ⟨rfl, Bs_in S X hU hW⟩⟩ rfl hn hsz hst (lv_room hrest) hdg hf
theorem q_S (S : Sx G p m c cc nL s args own) (X : Xd G s H locs τ) (hM : Met l y (Ws y bytes maxL ret) (Rm f w) (va_Pc As (Bs G τ)) Qc 0 0 G.2.2.2.2) (ck : CkS own index y bytes maxL ret n)
    (hR : f + 1 ≤ Rr.frames ∧ 8 + (maxL + 11) + w ≤ Rr.locals) (hn : As.length = n) (hsz : ls.size = nL) (hst : st = As.reverse ++ rest) (hrest : (rest.map fun v => v.category).sum ≤ 8) (hdg : decode cc pc = .ok (.invokestatic index, 3)) (hf : cells ≤ Rr.cells ∧ slots ≤ Rr.slots) :
    va_Run p l e Rr s m args below meth c H locs cells slots 0 0 (F0 m pc ls st) rest (Qc As.toArray) G.2.2.2.2 := by
  obtain ⟨⟨c1, c2, c3, c4⟩, c5⟩ := ck
  have hts := S.1.2.2.2.2
  exact va_runS S.1 hM ⟨callB_of n hts (good_ws c3) rfl rfl rfl (hts _ c2) (hts _ c1) c4 hR, hts _ c5⟩ ⟨Bs_blind, fun U hU hW => ⟨rfl, Bs_in S X hU hW⟩⟩ rfl hn hsz hst (lv_room hrest) hdg hf
theorem q_N {host : String} (S : Sx G p m c cc nL s args own) (X : Xd G s H locs τ) (hM : Met l y (Ws y bytes maxL ret) (Rm f w) (va_Pc As (Bs G τ)) Qc 0 0 G.2.2.2.2) (ck : CkN own index y host bytes maxL ret n)
    (hR : f + 1 ≤ Rr.frames ∧ 8 + (maxL + 11) + w ≤ Rr.locals) (hn : As.length = n) (hsz : ls.size = nL) (hst : st = As.reverse ++ rest) (hrest : (rest.map fun v => v.category).sum ≤ 8) (hdg : decode cc pc = .ok (.invokestatic index, 3)) (hf : cells ≤ Rr.cells ∧ slots ≤ Rr.slots) :
    va_Run p l e Rr s m args below meth c H locs cells slots 0 0 (F0 m pc ls st) rest (Qc As.toArray) G.2.2.2.2 := by
  obtain ⟨c1, c2, c3, c4, c5⟩ := ck
  have hts := S.1.2.2.2.2
  have hc : Cond.code y bytes maxL ret ∈ Ws y bytes maxL ret := List.mem_cons_self
  refine va_runSN S.1 hM ⟨⟨⟨rfl, rfl, hR.1, hR.2, pay_in hts (good_ws c3), hc⟩, hts _ c3, hts _ c2, ⟨c4.1, c4.2.1⟩, fun sig h => ?_, va_Nw.use rfl (S.2.2.2.2 _ c1)⟩, hts _ c5, trivial⟩ ⟨Bs_blind, fun U hU hW => ⟨rfl, Bs_in S X hU hW⟩⟩ rfl hn hsz hst (lv_room hrest) hdg hf
  have h2 := c4.2.2
  rw [h] at h2
  exact (Option.some.inj h2).symm
theorem q_U {C owner : String} {x : MethodName} (S : Sx G p m c cc nL s args own) (X : Xd G s H locs τ) (hM : Met l y (Ws y bytes maxL ret) (Rm f w) (va_Pc (.ref (G.2.2.2.1 k) :: As) (Bs G τ)) Qc 0 0 G.2.2.2.2) (ck : CkU own C owner index x y bytes maxL ret n) (hk : k < NC) (hkd : kd k = K) (hs : ∀ q, ∃ fs, (shL G k (τ k) q)[K]? = some (.inr (ci, fs))) (hci : ∃ T N, vwCl[ci]? = some (C, T, N))
    (hR : f + 1 ≤ Rr.frames ∧ 8 + (maxL + 11) + w ≤ Rr.locals) (hn : As.length = n) (hsz : ls.size = nL) (hst : st = As.reverse ++ .ref (G.2.2.2.1 k) :: rest) (hrest : (rest.map fun v => v.category).sum ≤ 8) (hdg : decode cc pc = .ok (.invokevirtual index, 3)) (hf : cells ≤ Rr.cells ∧ slots ≤ Rr.slots) :
    va_Run p l e Rr s m args below meth c H locs cells slots 0 0 (F0 m pc ls st) rest (Qc (Value.ref (G.2.2.2.1 k) :: As).toArray) G.2.2.2.2 := by
  obtain ⟨c1, c2, c3, c4, c5, c6, c7, c8⟩ := ck
  have hts := S.1.2.2.2.2
  obtain ⟨q, hq, hP⟩ := X.1
  obtain ⟨fs, h1⟩ := hs (q k)
  obtain ⟨T, N, hci⟩ := hci
  have hw : (wl G τ q)[k]? = some (G.2.2.2.1 k, .inr (ci, fs)) := by rw [wl_at hk, sh_of hkd h1]
  have hc : Cond.code y bytes maxL ret ∈ Ws y bytes maxL ret := List.mem_cons_self
  refine va_runU S.1 hM ⟨⟨rfl, rfl, hR.1, hR.2, pay_in hts (good_ws c6), hc⟩, hts _ c6, hts _ c5, ⟨c8.1, c8.2.1⟩, fun sig h => ?_, hts _ c1, hts _ c2, by rw [← c7]; exact va_Decl.of (hts _ c4) (hts _ c6), hts _ c3, hts _ c4⟩ ⟨Bs_blind, va_recv S.2.1 hP hci hw, fun U hU hW => ⟨rfl, Bs_in S X hU hW⟩⟩ rfl hn hsz hst (lv_room hrest) hdg hf
  have h2 := c8.2.2
  rw [h] at h2
  exact (Option.some.inj h2).symm
theorem r_ki {post : Int32 → Tau → Prop} {a : Array Value} (hr : va_Run p l e Rr s m args below meth c H locs cells slots 0 0 (F0 m pc ls st) rest (va_Qi post (Bs G) G.2.2.2.2 a) G.2.2.2.2) (X : Xd G s H locs τ)
    (kk : ∀ (r : Int32) (u : Tau) (H1 : Heap) (locs1 : List Loc), post r u → Xd G s H1 locs1 u → W p l e Rr s m args below meth c H1 locs1 cells slots Q (F0 m (pc + 3) ls (.int r :: rest))) : W p l e Rr s m args below meth c H locs cells slots Q (F0 m pc ls st) :=
  va_calli hr X.2 (fun _ _ h => h) (fun _ h => h) (fun r u t H1 locs1 ht hvm hw hB hz1 hk1 hS => kk r u H1 locs1 hw ⟨by rw [← ht]; exact hB.1, hS⟩)
theorem r_kv {post : Tau → Prop} {a : Array Value} (hr : va_Run p l e Rr s m args below meth c H locs cells slots 0 0 (F0 m pc ls st) rest (va_Qv post (Bs G) G.2.2.2.2 a) G.2.2.2.2) (X : Xd G s H locs τ)
    (kk : ∀ (u : Tau) (H1 : Heap) (locs1 : List Loc), post u → Xd G s H1 locs1 u → W p l e Rr s m args below meth c H1 locs1 cells slots Q (F0 m (pc + 3) ls rest)) : W p l e Rr s m args below meth c H locs cells slots Q (F0 m pc ls st) :=
  va_callv hr X.2 (fun _ _ h => h) (fun _ h => h) (fun u t H1 locs1 ht hvm hw hB hz1 hk1 hS => kk u H1 locs1 hw ⟨by rw [← ht]; exact hB.1, hS⟩)
theorem r_aldn {i : Int32} (S : Sx G p m c cc nL s args own) (X : Xd G s H locs τ) (hk : k < NC) (hkd : kd k = K) (hs : ∀ q, (shL G k (τ k) q)[K]? = some (.inl (G.2.1 0, n, .inl (τ k)))) (hin : 0 ≤ i.toInt ∧ i.toInt < n) (hdg : decode cc pc = .ok (.iaload, 1))
    (kk : ∀ x : Int32, τ k i.toNatClampNeg = x → W p l e Rr s m args below meth c H locs cells slots Q (F0 m (pc + 1) ls (.int x :: rest))) : W p l e Rr s m args below meth c H locs cells slots Q (F0 m pc ls (.int i :: .ref (G.2.2.2.1 k) :: rest)) := r_ald (cn := 0) S X hk hkd hs hin hdg (kk _ rfl)
theorem r_ast {i x : Int32} (S : Sx G p m c cc nL s args own) (X : Xd G s H locs τ) (hk : k < NC) (hkd : kd k = K) (hs : ∀ t q, (shL G k t q)[K]? = some (.inl (G.2.1 0, n, .inl t))) (hin : 0 ≤ i.toInt ∧ i.toInt < n) (hdg : decode cc pc = .ok (.iastore, 1))
    (kk : ∀ (u : Tau) (H1 : Heap) (locs1 : List Loc), Mu τ u k i.toNatClampNeg x → Xd G s H1 locs1 u → W p l e Rr s m args below meth c H1 locs1 cells slots Q (F0 m (pc + 1) ls rest)) : W p l e Rr s m args below meth c H locs cells slots Q (F0 m pc ls (.int x :: .int i :: .ref (G.2.2.2.1 k) :: rest)) := by
  obtain ⟨⟨hx, hb, hml, hown, hts⟩, hK, hD, hE⟩ := S
  obtain ⟨⟨q, hq, hP⟩, hS⟩ := X
  have hw : (wl G τ q)[k]? = some (G.2.2.2.1 k, .inl (G.2.1 0, n, .inl (τ k))) := by rw [wl_at hk, sh_of hkd (hs _ (q k))]
  refine va_iast hx hb hK hP (wl_D τ q hD) hS k 0 hw rfl (vp_in_iff.mpr hin) hdg (fun H1 locs1 hP1 hD1 hS1 => ?_)
  refine kk (tu τ k (upd (τ k) i.toNatClampNeg x)) H1 locs1 (Mu_tu τ k _ x) ⟨⟨q, hq.trans (qof_tu hk).symm, ?_⟩, hS1⟩
  rw [← wl_set (sh_of hkd (hs _ (q k)))]; exact hP1
theorem ix_of {i : Int32} {lo hi : Int} {n : Nat} (r : R lo hi i) (h : decide (0 ≤ lo ∧ hi < (n : Int)) = true) : 0 ≤ i.toInt ∧ i.toInt < (n : Int) := by
  have h := of_decide_eq_true h; exact ⟨by omega, by omega⟩
theorem nr_bool {v : Int32} (r : R 0 1 v) : narrow .boolean (.int v) = .int v := by
  have h : v = 0 ∨ v = 1 := by
    rcases (show v.toInt = 0 ∨ v.toInt = 1 by omega) with h | h
    · exact Or.inl (Int32.toInt_inj.mp h)
    · exact Or.inr (Int32.toInt_inj.mp h)
  rcases h with rfl | rfl <;> rfl
end RC
/-! intervals at branches -/
theorem R_lt1 {x y : Int32} {a b c d hi : Int} (h : x.toInt < y.toInt) (hx : R a b x) (hy : R c d y) (hd : decide (d - 1 ≤ hi) = true) : R a hi x := by
  have hd := of_decide_eq_true hd; exact ⟨hx.1, by omega⟩
theorem R_lt2 {x y : Int32} {a b c d lo : Int} (h : x.toInt < y.toInt) (hx : R a b x) (hy : R c d y) (hd : decide (lo ≤ a + 1) = true) : R lo d y := by
  have hd := of_decide_eq_true hd; exact ⟨by omega, hy.2⟩
theorem R_le1 {x y : Int32} {a b c d : Int} (h : x.toInt ≤ y.toInt) (hx : R a b x) (hy : R c d y) : R a d x := ⟨hx.1, by omega⟩
theorem R_le2 {x y : Int32} {a b c d : Int} (h : x.toInt ≤ y.toInt) (hx : R a b x) (hy : R c d y) : R a d y := ⟨by omega, hy.2⟩

theorem bs_l : ∀ n, n < 32 → ((nI n &&& 31).toBitVec.smod 32).toNat = n := by decide +kernel
theorem bs_u : ∀ n, n < 32 → (((nI n).toUInt32 &&& Int32.toUInt32 31).toBitVec % 32).toNat = n := by decide +kernel
theorem bn {x : Int32} (h : 0 ≤ x.toInt) : ∃ n : Nat, x = nI n ∧ n < 2147483648 ∧ x.toInt = (n : Int) := by
  have h1 : ¬ x < 0 := fun q => by
    have := Int32.lt_iff_toInt_lt.mp q
    have e : (0 : Int32).toInt = 0 := rfl
    omega
  obtain ⟨j, hj, rfl⟩ := nI_of h1
  exact ⟨j, rfl, by omega, nI_toInt hj⟩
theorem bt_nn {x : Int32} (h : 0 ≤ x.toInt) : x.toInt = (x.toBitVec.toNat : Int) ∧ x.toBitVec.toNat < 2147483648 := by
  obtain ⟨n, rfl, hn, e⟩ := bn h
  have := pk_tn (n := n) (by omega)
  rw [this]; exact ⟨e, hn⟩
theorem bt_of {x : Int32} (h : x.toBitVec.toNat < 2147483648) : x.toInt = (x.toBitVec.toNat : Int) := by
  rw [show x.toInt = x.toBitVec.toInt from rfl, BitVec.toInt_eq_toNat_cond]
  rw [if_pos (by omega)]
theorem i_and1 {x y z : Int32} {a b c d lo hi : Int} (h : z = x &&& y) (hx : R a b x) (hy : R c d y) (hd : decide (0 ≤ a ∧ lo ≤ 0 ∧ b ≤ hi) = true) : R lo hi z := by
  have hd := of_decide_eq_true hd
  obtain ⟨e, hl⟩ := bt_nn (x := x) (by omega)
  have hz : z.toBitVec.toNat = x.toBitVec.toNat &&& y.toBitVec.toNat := by rw [h]; exact BitVec.toNat_and _ _
  have hle : z.toBitVec.toNat ≤ x.toBitVec.toNat := by rw [hz]; exact Nat.and_le_left
  have e2 := bt_of (x := z) (by omega)
  exact ⟨by omega, by omega⟩
theorem i_and2 {x y z : Int32} {a b c d lo hi : Int} (h : z = x &&& y) (hx : R a b x) (hy : R c d y) (hd : decide (0 ≤ c ∧ lo ≤ 0 ∧ d ≤ hi) = true) : R lo hi z := by
  have hd := of_decide_eq_true hd
  obtain ⟨e, hl⟩ := bt_nn (x := y) (by omega)
  have hz : z.toBitVec.toNat = x.toBitVec.toNat &&& y.toBitVec.toNat := by rw [h]; exact BitVec.toNat_and _ _
  have hle : z.toBitVec.toNat ≤ y.toBitVec.toNat := by rw [hz]; exact Nat.and_le_right
  have e2 := bt_of (x := z) (by omega)
  exact ⟨by omega, by omega⟩
theorem i_or (k : Nat) {x y z : Int32} {a b c d lo hi : Int} (h : z = x ||| y) (hx : R a b x) (hy : R c d y) (hd : decide (0 ≤ a ∧ 0 ≤ c ∧ b < (2 ^ k : Nat) ∧ d < (2 ^ k : Nat) ∧ (2 ^ k : Nat) ≤ 2147483648 ∧ lo ≤ 0 ∧ ((2 ^ k : Nat) : Int) ≤ hi + 1) = true) : R lo hi z := by
  have hd := of_decide_eq_true hd
  obtain ⟨e, hl⟩ := bt_nn (x := x) (by omega)
  obtain ⟨e', hl'⟩ := bt_nn (x := y) (by omega)
  have hz : z.toBitVec.toNat = x.toBitVec.toNat ||| y.toBitVec.toNat := by rw [h]; exact BitVec.toNat_or _ _
  have hle : z.toBitVec.toNat < 2 ^ k := by rw [hz]; exact Nat.or_lt_two_pow (by omega) (by omega)
  have e2 := bt_of (x := z) (by omega)
  exact ⟨by omega, by omega⟩
theorem i_xor (k : Nat) {x y z : Int32} {a b c d lo hi : Int} (h : z = x ^^^ y) (hx : R a b x) (hy : R c d y) (hd : decide (0 ≤ a ∧ 0 ≤ c ∧ b < (2 ^ k : Nat) ∧ d < (2 ^ k : Nat) ∧ (2 ^ k : Nat) ≤ 2147483648 ∧ lo ≤ 0 ∧ ((2 ^ k : Nat) : Int) ≤ hi + 1) = true) : R lo hi z := by
  have hd := of_decide_eq_true hd
  obtain ⟨e, hl⟩ := bt_nn (x := x) (by omega)
  obtain ⟨e', hl'⟩ := bt_nn (x := y) (by omega)
  have hz : z.toBitVec.toNat = x.toBitVec.toNat ^^^ y.toBitVec.toNat := by rw [h]; exact BitVec.toNat_xor _ _
  have hle : z.toBitVec.toNat < 2 ^ k := by rw [hz]; exact Nat.xor_lt_two_pow (by omega) (by omega)
  have e2 := bt_of (x := z) (by omega)
  exact ⟨by omega, by omega⟩
theorem i_shl {x y z : Int32} {a b lo hi : Int} {c d : Nat} (h : z = x <<< (y &&& 31)) (hx : R a b x) (hy : R (c : Int) (d : Int) y) (hd : decide (0 ≤ a ∧ d ≤ 30 ∧ lo ≤ a * (2 ^ c : Nat) ∧ b * (2 ^ d : Nat) ≤ hi ∧ hi ≤ 2147483647) = true) : R lo hi z := by
  have hd := of_decide_eq_true hd
  obtain ⟨n, rfl, hn, e⟩ := bn (x := x) (by omega)
  obtain ⟨k, rfl, hk, e'⟩ := bn (x := y) (by omega)
  have hx1 : a ≤ (n : Int) := by rw [← e]; exact hx.1
  have hx2 : (n : Int) ≤ b := by rw [← e]; exact hx.2
  have hy1 : (c : Int) ≤ (k : Int) := by rw [← e']; exact hy.1
  have hy2 : (k : Int) ≤ (d : Int) := by rw [← e']; exact hy.2
  have hk2 : k ≤ d := by omega
  have hc : c ≤ k := by omega
  have p1 : 2 ^ k ≤ 2 ^ d := Nat.pow_le_pow_right (by decide) hk2
  have p2 : 2 ^ c ≤ 2 ^ k := Nat.pow_le_pow_right (by decide) hc
  have m1 : n * 2 ^ k ≤ n * 2 ^ d := Nat.mul_le_mul_left n p1
  have m2 : n * 2 ^ c ≤ n * 2 ^ k := Nat.mul_le_mul_left n p2
  have q1 : ((n * 2 ^ d : Nat) : Int) ≤ b * (2 ^ d : Nat) := by
    rw [Int.natCast_mul]; exact Int.mul_le_mul_of_nonneg_right hx2 (Int.natCast_nonneg _)
  have q2 : a * (2 ^ c : Nat) ≤ ((n * 2 ^ c : Nat) : Int) := by
    rw [Int.natCast_mul]; exact Int.mul_le_mul_of_nonneg_right hx1 (Int.natCast_nonneg _)
  have hz : z = nI (n * 2 ^ k) := by rw [h]; exact pk_shlN _ k (bs_l k (by omega)) (by omega)
  have ez : z.toInt = ((n * 2 ^ k : Nat) : Int) := by rw [hz]; exact nI_toInt (by omega)
  exact ⟨by omega, by omega⟩
theorem i_shr {x y z : Int32} {a b c d lo hi : Int} (h : z = x >>> (y &&& 31)) (hx : R a b x) (hy : R c d y) (hd : decide (0 ≤ a ∧ 0 ≤ c ∧ d ≤ 31 ∧ lo ≤ 0 ∧ b ≤ hi) = true) : R lo hi z := by
  have hd := of_decide_eq_true hd
  obtain ⟨n, rfl, hn, e⟩ := bn (x := x) (by omega)
  obtain ⟨k, rfl, hk, e'⟩ := bn (x := y) (by omega)
  have hz : z = nI (n / 2 ^ k) := by rw [h]; exact pk_shrN hn _ k (bs_l k (by omega))
  have hle : n / 2 ^ k ≤ n := Nat.div_le_self _ _
  have ez : z.toInt = ((n / 2 ^ k : Nat) : Int) := by rw [hz]; exact nI_toInt (by omega)
  rw [show R lo hi z ↔ (lo ≤ z.toInt ∧ z.toInt ≤ hi) from Iff.rfl, ez]
  generalize n / 2 ^ k = t at hle ⊢
  have e0 : (0 : Int) ≤ (t : Int) := Int.natCast_nonneg t
  exact ⟨by omega, by omega⟩
theorem i_ushr {x y z : Int32} {a b c d lo hi : Int} (h : z = (x.toUInt32 >>> (y.toUInt32 &&& Int32.toUInt32 31)).toInt32) (hx : R a b x) (hy : R c d y) (hd : decide (0 ≤ a ∧ 0 ≤ c ∧ d ≤ 31 ∧ lo ≤ 0 ∧ b ≤ hi) = true) : R lo hi z := by
  have hd := of_decide_eq_true hd
  obtain ⟨n, rfl, hn, e⟩ := bn (x := x) (by omega)
  obtain ⟨k, rfl, hk, e'⟩ := bn (x := y) (by omega)
  have hz : z = nI (n / 2 ^ k) := by rw [h]; exact pk_ushrN (by omega) _ k (bs_u k (by omega))
  have hle : n / 2 ^ k ≤ n := Nat.div_le_self _ _
  have ez : z.toInt = ((n / 2 ^ k : Nat) : Int) := by rw [hz]; exact nI_toInt (by omega)
  rw [show R lo hi z ↔ (lo ≤ z.toInt ∧ z.toInt ≤ hi) from Iff.rfl, ez]
  generalize n / 2 ^ k = t at hle ⊢
  have e0 : (0 : Int) ≤ (t : Int) := Int.natCast_nonneg t
  exact ⟨by omega, by omega⟩
theorem i_ushrc {x y z : Int32} {a b lo hi : Int} {k : Nat} (h : z = (x.toUInt32 >>> (y.toUInt32 &&& Int32.toUInt32 31)).toInt32) (hx : R a b x) (hy : R (k : Int) (k : Int) y) (hd : decide (1 ≤ k ∧ k ≤ 31 ∧ lo ≤ 0 ∧ (((4294967295 / 2 ^ k : Nat) : Int)) ≤ hi) = true) : R lo hi z := by
  have hd := of_decide_eq_true hd
  obtain ⟨j, rfl, hj, e'⟩ := bn (x := y) (by omega)
  have hjk : j = k := by omega
  subst hjk
  have hz : z.toBitVec.toNat = x.toBitVec.toNat / 2 ^ j := by rw [h]; exact pk_ushr x _ j (bs_u j (by omega))
  have hx2 : x.toBitVec.toNat ≤ 4294967295 := by have := x.toBitVec.isLt; omega
  have h3 : x.toBitVec.toNat / 2 ^ j ≤ 4294967295 / 2 ^ j := Nat.div_le_div_right hx2
  have h4 : 4294967295 / 2 ^ j ≤ 4294967295 / 2 ^ 1 := Nat.div_le_div_left (Nat.pow_le_pow_right (by decide) hd.1) (by decide)
  have e2 := bt_of (x := z) (by omega)
  exact ⟨by omega, by omega⟩
theorem i_rem0 {x y z : Int32} {a b c d lo hi : Int} (h : z = x - x / y * y) (hx : R a b x) (hy : R c d y) (hd : decide (0 ≤ a ∧ 0 < c ∧ lo ≤ 0 ∧ d - 1 ≤ hi) = true) : R lo hi z := by
  have hd := of_decide_eq_true hd
  obtain ⟨n, rfl, hn, e⟩ := bn (x := x) (by omega)
  obtain ⟨k, rfl, hk, e'⟩ := bn (x := y) (by omega)
  have hz : z = nI (n % k) := by rw [h]; exact pk_rem hn (by omega) hk
  have hle : n % k < k := Nat.mod_lt _ (by omega)
  have ez : z.toInt = ((n % k : Nat) : Int) := by rw [hz]; exact nI_toInt (by omega)
  rw [show R lo hi z ↔ (lo ≤ z.toInt ∧ z.toInt ≤ hi) from Iff.rfl, ez]
  generalize n % k = t at hle ⊢
  have e0 : (0 : Int) ≤ (t : Int) := Int.natCast_nonneg t
  exact ⟨by omega, by omega⟩
theorem i_div0 {x y z : Int32} {a b c d lo hi : Int} (h : z = x / y) (hx : R a b x) (hy : R c d y) (hd : decide (0 ≤ a ∧ 0 < c ∧ lo ≤ 0 ∧ b ≤ hi) = true) : R lo hi z := by
  have hd := of_decide_eq_true hd
  obtain ⟨n, rfl, hn, e⟩ := bn (x := x) (by omega)
  obtain ⟨k, rfl, hk, e'⟩ := bn (x := y) (by omega)
  have hz : z = nI (n / k) := by rw [h]; exact pk_div hn (by omega) hk
  have hle : n / k ≤ n := Nat.div_le_self _ _
  have ez : z.toInt = ((n / k : Nat) : Int) := by rw [hz]; exact nI_toInt (by omega)
  rw [show R lo hi z ↔ (lo ≤ z.toInt ∧ z.toInt ≤ hi) from Iff.rfl, ez]
  generalize n / k = t at hle ⊢
  have e0 : (0 : Int) ≤ (t : Int) := Int.natCast_nonneg t
  exact ⟨by omega, by omega⟩
theorem i_neg {x z : Int32} {a b lo hi : Int} (h : z = -x) (hx : R a b x) (hd : decide (lo ≤ -b ∧ -a ≤ hi ∧ -2147483648 ≤ lo ∧ hi ≤ 2147483647) = true) : z.toInt = -x.toInt ∧ R lo hi z := by
  have hd := of_decide_eq_true hd
  have e : z.toInt = -x.toInt := by
    rw [h, Int32.toInt_neg, Int.bmod_eq_of_le (by omega) (by omega)]
  exact ⟨e, by omega, by omega⟩
theorem ft_bool {v : Int32} (r : R 0 1 v) : fits .boolean (.int v) = true := by
  have h : v = 0 ∨ v = 1 := by
    rcases (show v.toInt = 0 ∨ v.toInt = 1 by omega) with h | h
    · exact Or.inl (Int32.toInt_inj.mp h)
    · exact Or.inr (Int32.toInt_inj.mp h)
  rcases h with rfl | rfl <;> rfl

theorem lay4_1 {k : Nat} (hk : k < NC) (h : kd k = 4) : k + 1 < NC ∧ kd (k + 1) = 5 := (by decide +kernel : ∀ k, k < NC → kd k = 4 → k + 1 < NC ∧ kd (k + 1) = 5) k hk h
theorem lay4_2 {k : Nat} (hk : k < NC) (h : kd k = 4) : k + 2 < NC ∧ kd (k + 2) = 6 := (by decide +kernel : ∀ k, k < NC → kd k = 4 → k + 2 < NC ∧ kd (k + 2) = 6) k hk h
theorem lay4_3 {k : Nat} (hk : k < NC) (h : kd k = 4) : k + 3 < NC ∧ kd (k + 3) = 7 := (by decide +kernel : ∀ k, k < NC → kd k = 4 → k + 3 < NC ∧ kd (k + 3) = 7) k hk h
theorem lay4_4 {k : Nat} (hk : k < NC) (h : kd k = 4) : k + 4 < NC ∧ kd (k + 4) = 8 := (by decide +kernel : ∀ k, k < NC → kd k = 4 → k + 4 < NC ∧ kd (k + 4) = 8) k hk h
theorem lay4_5 {k : Nat} (hk : k < NC) (h : kd k = 4) : k + 5 < NC ∧ kd (k + 5) = 9 := (by decide +kernel : ∀ k, k < NC → kd k = 4 → k + 5 < NC ∧ kd (k + 5) = 9) k hk h
theorem lay4_6 {k : Nat} (hk : k < NC) (h : kd k = 4) : k + 6 < NC ∧ kd (k + 6) = 10 := (by decide +kernel : ∀ k, k < NC → kd k = 4 → k + 6 < NC ∧ kd (k + 6) = 10) k hk h
theorem lay23_1 {k : Nat} (hk : k < NC) (h : kd k = 23) : k + 1 < NC ∧ kd (k + 1) = 24 := (by decide +kernel : ∀ k, k < NC → kd k = 23 → k + 1 < NC ∧ kd (k + 1) = 24) k hk h
theorem lay23_2 {k : Nat} (hk : k < NC) (h : kd k = 23) : k + 2 < NC ∧ kd (k + 2) = 25 := (by decide +kernel : ∀ k, k < NC → kd k = 23 → k + 2 < NC ∧ kd (k + 2) = 25) k hk h
theorem lay23_3 {k : Nat} (hk : k < NC) (h : kd k = 23) : k + 3 < NC ∧ kd (k + 3) = 26 := (by decide +kernel : ∀ k, k < NC → kd k = 23 → k + 3 < NC ∧ kd (k + 3) = 26) k hk h
theorem lay23_4 {k : Nat} (hk : k < NC) (h : kd k = 23) : k + 4 < NC ∧ kd (k + 4) = 27 := (by decide +kernel : ∀ k, k < NC → kd k = 23 → k + 4 < NC ∧ kd (k + 4) = 27) k hk h
theorem lay17_1 {k : Nat} (hk : k < NC) (h : kd k = 17) : k + 1 < NC ∧ kd (k + 1) = 18 := (by decide +kernel : ∀ k, k < NC → kd k = 17 → k + 1 < NC ∧ kd (k + 1) = 18) k hk h
theorem lay17_2 {k : Nat} (hk : k < NC) (h : kd k = 17) : k + 2 < NC ∧ kd (k + 2) = 19 := (by decide +kernel : ∀ k, k < NC → kd k = 17 → k + 2 < NC ∧ kd (k + 2) = 19) k hk h
theorem lay17_3 {k : Nat} (hk : k < NC) (h : kd k = 17) : k + 3 < NC ∧ kd (k + 3) = 20 := (by decide +kernel : ∀ k, k < NC → kd k = 17 → k + 3 < NC ∧ kd (k + 3) = 20) k hk h
theorem lay17_4 {k : Nat} (hk : k < NC) (h : kd k = 17) : k + 4 < NC ∧ kd (k + 4) = 21 := (by decide +kernel : ∀ k, k < NC → kd k = 17 → k + 4 < NC ∧ kd (k + 4) = 21) k hk h
theorem lay22_1 {k : Nat} (hk : k < NC) (h : kd k = 22) : k + 1 < NC ∧ kd (k + 1) = 4 := (by decide +kernel : ∀ k, k < NC → kd k = 22 → k + 1 < NC ∧ kd (k + 1) = 4) k hk h
theorem lay22_2 {k : Nat} (hk : k < NC) (h : kd k = 22) : k + 2 < NC ∧ kd (k + 2) = 5 := (by decide +kernel : ∀ k, k < NC → kd k = 22 → k + 2 < NC ∧ kd (k + 2) = 5) k hk h
theorem lay22_3 {k : Nat} (hk : k < NC) (h : kd k = 22) : k + 3 < NC ∧ kd (k + 3) = 6 := (by decide +kernel : ∀ k, k < NC → kd k = 22 → k + 3 < NC ∧ kd (k + 3) = 6) k hk h
theorem lay22_4 {k : Nat} (hk : k < NC) (h : kd k = 22) : k + 4 < NC ∧ kd (k + 4) = 7 := (by decide +kernel : ∀ k, k < NC → kd k = 22 → k + 4 < NC ∧ kd (k + 4) = 7) k hk h
theorem lay22_5 {k : Nat} (hk : k < NC) (h : kd k = 22) : k + 5 < NC ∧ kd (k + 5) = 8 := (by decide +kernel : ∀ k, k < NC → kd k = 22 → k + 5 < NC ∧ kd (k + 5) = 8) k hk h
theorem lay22_6 {k : Nat} (hk : k < NC) (h : kd k = 22) : k + 6 < NC ∧ kd (k + 6) = 9 := (by decide +kernel : ∀ k, k < NC → kd k = 22 → k + 6 < NC ∧ kd (k + 6) = 9) k hk h
theorem lay22_7 {k : Nat} (hk : k < NC) (h : kd k = 22) : k + 7 < NC ∧ kd (k + 7) = 10 := (by decide +kernel : ∀ k, k < NC → kd k = 22 → k + 7 < NC ∧ kd (k + 7) = 10) k hk h
theorem lay22_8 {k : Nat} (hk : k < NC) (h : kd k = 22) : k + 8 < NC ∧ kd (k + 8) = 23 := (by decide +kernel : ∀ k, k < NC → kd k = 22 → k + 8 < NC ∧ kd (k + 8) = 23) k hk h
theorem lay22_9 {k : Nat} (hk : k < NC) (h : kd k = 22) : k + 9 < NC ∧ kd (k + 9) = 24 := (by decide +kernel : ∀ k, k < NC → kd k = 22 → k + 9 < NC ∧ kd (k + 9) = 24) k hk h
theorem lay22_10 {k : Nat} (hk : k < NC) (h : kd k = 22) : k + 10 < NC ∧ kd (k + 10) = 25 := (by decide +kernel : ∀ k, k < NC → kd k = 22 → k + 10 < NC ∧ kd (k + 10) = 25) k hk h
theorem lay22_11 {k : Nat} (hk : k < NC) (h : kd k = 22) : k + 11 < NC ∧ kd (k + 11) = 26 := (by decide +kernel : ∀ k, k < NC → kd k = 22 → k + 11 < NC ∧ kd (k + 11) = 26) k hk h
theorem lay22_12 {k : Nat} (hk : k < NC) (h : kd k = 22) : k + 12 < NC ∧ kd (k + 12) = 27 := (by decide +kernel : ∀ k, k < NC → kd k = 22 → k + 12 < NC ∧ kd (k + 12) = 27) k hk h
theorem lay22_13 {k : Nat} (hk : k < NC) (h : kd k = 22) : k + 13 < NC ∧ kd (k + 13) = 17 := (by decide +kernel : ∀ k, k < NC → kd k = 22 → k + 13 < NC ∧ kd (k + 13) = 17) k hk h
theorem lay22_14 {k : Nat} (hk : k < NC) (h : kd k = 22) : k + 14 < NC ∧ kd (k + 14) = 18 := (by decide +kernel : ∀ k, k < NC → kd k = 22 → k + 14 < NC ∧ kd (k + 14) = 18) k hk h
theorem lay22_15 {k : Nat} (hk : k < NC) (h : kd k = 22) : k + 15 < NC ∧ kd (k + 15) = 19 := (by decide +kernel : ∀ k, k < NC → kd k = 22 → k + 15 < NC ∧ kd (k + 15) = 19) k hk h
theorem lay22_16 {k : Nat} (hk : k < NC) (h : kd k = 22) : k + 16 < NC ∧ kd (k + 16) = 20 := (by decide +kernel : ∀ k, k < NC → kd k = 22 → k + 16 < NC ∧ kd (k + 16) = 20) k hk h
theorem lay22_17 {k : Nat} (hk : k < NC) (h : kd k = 22) : k + 17 < NC ∧ kd (k + 17) = 21 := (by decide +kernel : ∀ k, k < NC → kd k = 22 → k + 17 < NC ∧ kd (k + 17) = 21) k hk h
