section
/-! the whole: what both sides hold; arguments -/
section P0
variable {v : Int32}
end P0
def NR (ns : NS) (tk sl : Nat → Int32) : Prop := ∀ i : Int, 0 ≤ i → i < 2 → (ns i.toNat = none ∧ tk i.toNat = iZ 0) ∨ ∃ (w : ShS) (sc : Int), ns i.toNat = some w ∧ tk i.toNat = iZ 1 ∧ SR w (zI sl (303 * i)) sc
-- arguments
def B32 (a : Int) : Prop := -2147483648 ≤ a ∧ a < 2147483648
theorem iZ_B (x : Int32) : ∃ a : Int, x = iZ a ∧ B32 a := ⟨x.toInt, iZ_of x, Int32.le_toInt x, Int32.toInt_lt x⟩
theorem btwY {a lo hi : Int} (B : B32 a) (h0 : -1000 ≤ lo) (h1 : hi ≤ 1000) (h : lo ≤ a ∧ a ≤ hi) : fX5_requireBetween (iZ a) (iZ lo) (iZ hi) = some (.inr ()) := by
  obtain ⟨b0, b1⟩ := B
  unfold fX5_requireBetween
  simp (disch := omega) only [Sum.elim_inl, Sum.elim_inr, bi_tr, bi_fa, gd_true, gd_dec, lt_def, bind_s, isb_0, isb_1, iZ_add, iZ_sub, iZ_mul, iZ_neg, lZ_add, lZ_sub, lZ_mul, iZ_lt, iZ_le, iZ_eq, lZ_lt, lZ_le, lZ_eq, iZ_64, iZ_N, inb_Z, if_pos, if_neg, ↓reduceIte, Bool.true_eq_false, Bool.false_eq_true, li0, li1, li2, li3, li4, li5, li6, li9, li10, li16, li20, li23, li24, li25, li31, li33, li44, li48, li49, li50, li51, li57, li59, li60, li63, li69, li70, li71, li72, li74, li99, li100, li119, li126, li250, li296, li297, li298, li299, li300, li301, li302, li303, li606, li1515, li1818, li16384, li1048576, li2147483647, li10000, lj0, lj1, lj10000]
theorem btwN {a lo hi : Int} (B : B32 a) (h0 : -1000 ≤ lo ∧ lo ≤ 1000) (h1 : -1000 ≤ hi ∧ hi ≤ 1000) (h : ¬ (lo ≤ a ∧ a ≤ hi)) : fX5_requireBetween (iZ a) (iZ lo) (iZ hi) = some (.inl 1) := by
  obtain ⟨b0, b1⟩ := B
  unfold fX5_requireBetween
  by_cases e : a < lo
  · simp (disch := omega) only [Sum.elim_inl, Sum.elim_inr, bi_tr, bi_fa, gd_true, gd_dec, lt_def, bind_s, isb_0, isb_1, iZ_add, iZ_sub, iZ_mul, iZ_neg, lZ_add, lZ_sub, lZ_mul, iZ_lt, iZ_le, iZ_eq, lZ_lt, lZ_le, lZ_eq, iZ_64, iZ_N, inb_Z, if_pos, if_neg, ↓reduceIte, Bool.true_eq_false, Bool.false_eq_true, li0, li1, li2, li3, li4, li5, li6, li9, li10, li16, li20, li23, li24, li25, li31, li33, li44, li48, li49, li50, li51, li57, li59, li60, li63, li69, li70, li71, li72, li74, li99, li100, li119, li126, li250, li296, li297, li298, li299, li300, li301, li302, li303, li606, li1515, li1818, li16384, li1048576, li2147483647, li10000, lj0, lj1, lj10000]
  · simp (disch := omega) only [Sum.elim_inl, Sum.elim_inr, bi_tr, bi_fa, gd_true, gd_dec, lt_def, bind_s, isb_0, isb_1, iZ_add, iZ_sub, iZ_mul, iZ_neg, lZ_add, lZ_sub, lZ_mul, iZ_lt, iZ_le, iZ_eq, lZ_lt, lZ_le, lZ_eq, iZ_64, iZ_N, inb_Z, if_pos, if_neg, ↓reduceIte, Bool.true_eq_false, Bool.false_eq_true, li0, li1, li2, li3, li4, li5, li6, li9, li10, li16, li20, li23, li24, li25, li31, li33, li44, li48, li49, li50, li51, li57, li59, li60, li63, li69, li70, li71, li72, li74, li99, li100, li119, li126, li250, li296, li297, li298, li299, li300, li301, li302, li303, li606, li1515, li1818, li16384, li1048576, li2147483647, li10000, lj0, lj1, lj10000]
def inP (a b : Int) : Prop := (0 ≤ a ∧ a ≤ 99) ∧ 0 ≤ b ∧ b ≤ 99
theorem plcY {a b : Int} (A : B32 a) (B : B32 b) (h : inP a b) : fX5_requirePlace (iZ a) (iZ b) = some (.inr ()) := by
  have h1 := btwY A (lo := 0) (hi := 99) (by omega) (by omega) h.1
  have h2 := btwY B (lo := 0) (hi := 99) (by omega) (by omega) h.2
  unfold fX5_requirePlace
  simp (disch := omega) only [h1, h2, Sum.elim_inl, Sum.elim_inr, bi_tr, bi_fa, gd_true, gd_dec, lt_def, bind_s, isb_0, isb_1, iZ_add, iZ_sub, iZ_mul, iZ_neg, lZ_add, lZ_sub, lZ_mul, iZ_lt, iZ_le, iZ_eq, lZ_lt, lZ_le, lZ_eq, iZ_64, iZ_N, inb_Z, if_pos, if_neg, ↓reduceIte, Bool.true_eq_false, Bool.false_eq_true, li0, li1, li2, li3, li4, li5, li6, li9, li10, li16, li20, li23, li24, li25, li31, li33, li44, li48, li49, li50, li51, li57, li59, li60, li63, li69, li70, li71, li72, li74, li99, li100, li119, li126, li250, li296, li297, li298, li299, li300, li301, li302, li303, li606, li1515, li1818, li16384, li1048576, li2147483647, li10000, lj0, lj1, lj10000]
theorem plcN {a b : Int} (A : B32 a) (B : B32 b) (h : ¬ inP a b) : fX5_requirePlace (iZ a) (iZ b) = some (.inl 1) := by
  unfold fX5_requirePlace
  by_cases e : 0 ≤ a ∧ a ≤ 99
  · have h1 := btwY A (lo := 0) (hi := 99) (by omega) (by omega) e
    have h2 := btwN B (lo := 0) (hi := 99) (by omega) (by omega) (fun q => h ⟨e, q⟩)
    simp (disch := omega) only [h1, h2, Sum.elim_inl, Sum.elim_inr, bi_tr, bi_fa, gd_true, gd_dec, lt_def, bind_s, isb_0, isb_1, iZ_add, iZ_sub, iZ_mul, iZ_neg, lZ_add, lZ_sub, lZ_mul, iZ_lt, iZ_le, iZ_eq, lZ_lt, lZ_le, lZ_eq, iZ_64, iZ_N, inb_Z, if_pos, if_neg, ↓reduceIte, Bool.true_eq_false, Bool.false_eq_true, li0, li1, li2, li3, li4, li5, li6, li9, li10, li16, li20, li23, li24, li25, li31, li33, li44, li48, li49, li50, li51, li57, li59, li60, li63, li69, li70, li71, li72, li74, li99, li100, li119, li126, li250, li296, li297, li298, li299, li300, li301, li302, li303, li606, li1515, li1818, li16384, li1048576, li2147483647, li10000, lj0, lj1, lj10000]
  · have h1 := btwN A (lo := 0) (hi := 99) (by omega) (by omega) e
    simp (disch := omega) only [h1, Sum.elim_inl, Sum.elim_inr, bi_tr, bi_fa, gd_true, gd_dec, lt_def, bind_s, isb_0, isb_1, iZ_add, iZ_sub, iZ_mul, iZ_neg, lZ_add, lZ_sub, lZ_mul, iZ_lt, iZ_le, iZ_eq, lZ_lt, lZ_le, lZ_eq, iZ_64, iZ_N, inb_Z, if_pos, if_neg, ↓reduceIte, Bool.true_eq_false, Bool.false_eq_true, li0, li1, li2, li3, li4, li5, li6, li9, li10, li16, li20, li23, li24, li25, li31, li33, li44, li48, li49, li50, li51, li57, li59, li60, li63, li69, li70, li71, li72, li74, li99, li100, li119, li126, li250, li296, li297, li298, li299, li300, li301, li302, li303, li606, li1515, li1818, li16384, li1048576, li2147483647, li10000, lj0, lj1, lj10000]
theorem widY {a : Int} (A : B32 a) (h : 1 ≤ a ∧ a ≤ 20) : fX5_requireWidth (iZ a) = some (.inr ()) := by
  have h1 := btwY A (lo := 1) (hi := 20) (by omega) (by omega) h
  unfold fX5_requireWidth
  simp (disch := omega) only [h1, Sum.elim_inl, Sum.elim_inr, bi_tr, bi_fa, gd_true, gd_dec, lt_def, bind_s, isb_0, isb_1, iZ_add, iZ_sub, iZ_mul, iZ_neg, lZ_add, lZ_sub, lZ_mul, iZ_lt, iZ_le, iZ_eq, lZ_lt, lZ_le, lZ_eq, iZ_64, iZ_N, inb_Z, if_pos, if_neg, ↓reduceIte, Bool.true_eq_false, Bool.false_eq_true, li0, li1, li2, li3, li4, li5, li6, li9, li10, li16, li20, li23, li24, li25, li31, li33, li44, li48, li49, li50, li51, li57, li59, li60, li63, li69, li70, li71, li72, li74, li99, li100, li119, li126, li250, li296, li297, li298, li299, li300, li301, li302, li303, li606, li1515, li1818, li16384, li1048576, li2147483647, li10000, lj0, lj1, lj10000]
theorem widN {a : Int} (A : B32 a) (h : ¬ (1 ≤ a ∧ a ≤ 20)) : fX5_requireWidth (iZ a) = some (.inl 1) := by
  have h1 := btwN A (lo := 1) (hi := 20) (by omega) (by omega) h
  unfold fX5_requireWidth
  simp (disch := omega) only [h1, Sum.elim_inl, Sum.elim_inr, bi_tr, bi_fa, gd_true, gd_dec, lt_def, bind_s, isb_0, isb_1, iZ_add, iZ_sub, iZ_mul, iZ_neg, lZ_add, lZ_sub, lZ_mul, iZ_lt, iZ_le, iZ_eq, lZ_lt, lZ_le, lZ_eq, iZ_64, iZ_N, inb_Z, if_pos, if_neg, ↓reduceIte, Bool.true_eq_false, Bool.false_eq_true, li0, li1, li2, li3, li4, li5, li6, li9, li10, li16, li20, li23, li24, li25, li31, li33, li44, li48, li49, li50, li51, li57, li59, li60, li63, li69, li70, li71, li72, li74, li99, li100, li119, li126, li250, li296, li297, li298, li299, li300, li301, li302, li303, li606, li1515, li1818, li16384, li1048576, li2147483647, li10000, lj0, lj1, lj10000]
theorem wayY {a : Int} (A : B32 a) (h : 0 ≤ a ∧ a ≤ 1) : fX5_requireWay (iZ a) = some (.inr ()) := by
  have h1 := btwY A (lo := 0) (hi := 1) (by omega) (by omega) h
  unfold fX5_requireWay
  simp (disch := omega) only [h1, Sum.elim_inl, Sum.elim_inr, bi_tr, bi_fa, gd_true, gd_dec, lt_def, bind_s, isb_0, isb_1, iZ_add, iZ_sub, iZ_mul, iZ_neg, lZ_add, lZ_sub, lZ_mul, iZ_lt, iZ_le, iZ_eq, lZ_lt, lZ_le, lZ_eq, iZ_64, iZ_N, inb_Z, if_pos, if_neg, ↓reduceIte, Bool.true_eq_false, Bool.false_eq_true, li0, li1, li2, li3, li4, li5, li6, li9, li10, li16, li20, li23, li24, li25, li31, li33, li44, li48, li49, li50, li51, li57, li59, li60, li63, li69, li70, li71, li72, li74, li99, li100, li119, li126, li250, li296, li297, li298, li299, li300, li301, li302, li303, li606, li1515, li1818, li16384, li1048576, li2147483647, li10000, lj0, lj1, lj10000]
theorem wayN {a : Int} (A : B32 a) (h : ¬ (0 ≤ a ∧ a ≤ 1)) : fX5_requireWay (iZ a) = some (.inl 1) := by
  have h1 := btwN A (lo := 0) (hi := 1) (by omega) (by omega) h
  unfold fX5_requireWay
  simp (disch := omega) only [h1, Sum.elim_inl, Sum.elim_inr, bi_tr, bi_fa, gd_true, gd_dec, lt_def, bind_s, isb_0, isb_1, iZ_add, iZ_sub, iZ_mul, iZ_neg, lZ_add, lZ_sub, lZ_mul, iZ_lt, iZ_le, iZ_eq, lZ_lt, lZ_le, lZ_eq, iZ_64, iZ_N, inb_Z, if_pos, if_neg, ↓reduceIte, Bool.true_eq_false, Bool.false_eq_true, li0, li1, li2, li3, li4, li5, li6, li9, li10, li16, li20, li23, li24, li25, li31, li33, li44, li48, li49, li50, li51, li57, li59, li60, li63, li69, li70, li71, li72, li74, li99, li100, li119, li126, li250, li296, li297, li298, li299, li300, li301, li302, li303, li606, li1515, li1818, li16384, li1048576, li2147483647, li10000, lj0, lj1, lj10000]
theorem stgY {a : Int} (A : B32 a) (h : 0 ≤ a ∧ a < 4) : fX5_requireSetting (iZ a) = some (.inr ()) := by
  obtain ⟨b0, b1⟩ := A
  unfold fX5_requireSetting
  simp (disch := omega) only [Sum.elim_inl, Sum.elim_inr, bi_tr, bi_fa, gd_true, gd_dec, lt_def, bind_s, isb_0, isb_1, iZ_add, iZ_sub, iZ_mul, iZ_neg, lZ_add, lZ_sub, lZ_mul, iZ_lt, iZ_le, iZ_eq, lZ_lt, lZ_le, lZ_eq, iZ_64, iZ_N, inb_Z, if_pos, if_neg, ↓reduceIte, Bool.true_eq_false, Bool.false_eq_true, li0, li1, li2, li3, li4, li5, li6, li9, li10, li16, li20, li23, li24, li25, li31, li33, li44, li48, li49, li50, li51, li57, li59, li60, li63, li69, li70, li71, li72, li74, li99, li100, li119, li126, li250, li296, li297, li298, li299, li300, li301, li302, li303, li606, li1515, li1818, li16384, li1048576, li2147483647, li10000, lj0, lj1, lj10000]
theorem stgN {a : Int} (A : B32 a) (h : ¬ (0 ≤ a ∧ a < 4)) : fX5_requireSetting (iZ a) = some (.inl 0) := by
  obtain ⟨b0, b1⟩ := A
  unfold fX5_requireSetting
  by_cases e : a < 0
  · simp (disch := omega) only [Sum.elim_inl, Sum.elim_inr, bi_tr, bi_fa, gd_true, gd_dec, lt_def, bind_s, isb_0, isb_1, iZ_add, iZ_sub, iZ_mul, iZ_neg, lZ_add, lZ_sub, lZ_mul, iZ_lt, iZ_le, iZ_eq, lZ_lt, lZ_le, lZ_eq, iZ_64, iZ_N, inb_Z, if_pos, if_neg, ↓reduceIte, Bool.true_eq_false, Bool.false_eq_true, li0, li1, li2, li3, li4, li5, li6, li9, li10, li16, li20, li23, li24, li25, li31, li33, li44, li48, li49, li50, li51, li57, li59, li60, li63, li69, li70, li71, li72, li74, li99, li100, li119, li126, li250, li296, li297, li298, li299, li300, li301, li302, li303, li606, li1515, li1818, li16384, li1048576, li2147483647, li10000, lj0, lj1, lj10000]
  · simp (disch := omega) only [Sum.elim_inl, Sum.elim_inr, bi_tr, bi_fa, gd_true, gd_dec, lt_def, bind_s, isb_0, isb_1, iZ_add, iZ_sub, iZ_mul, iZ_neg, lZ_add, lZ_sub, lZ_mul, iZ_lt, iZ_le, iZ_eq, lZ_lt, lZ_le, lZ_eq, iZ_64, iZ_N, inb_Z, if_pos, if_neg, ↓reduceIte, Bool.true_eq_false, Bool.false_eq_true, li0, li1, li2, li3, li4, li5, li6, li9, li10, li16, li20, li23, li24, li25, li31, li33, li44, li48, li49, li50, li51, li57, li59, li60, li63, li69, li70, li71, li72, li74, li99, li100, li119, li126, li250, li296, li297, li298, li299, li300, li301, li302, li303, li606, li1515, li1818, li16384, li1048576, li2147483647, li10000, lj0, lj1, lj10000]
section P1
variable {u : ShS} {z : Nat → Int32} {sc a : Int}
theorem rsY (A : B32 a) (S : SR u z sc) (h : 0 ≤ a ∧ a < sc) : fX5_requireStroke (iZ a) u = some (.inr ()) := by
  obtain ⟨b0, b1⟩ := A
  have h1 := S.1
  have h2 := S.2.1
  unfold fX5_requireStroke fX1_strokeCount
  simp (disch := omega) only [h2, Sum.elim_inl, Sum.elim_inr, bi_tr, bi_fa, gd_true, gd_dec, lt_def, bind_s, isb_0, isb_1, iZ_add, iZ_sub, iZ_mul, iZ_neg, lZ_add, lZ_sub, lZ_mul, iZ_lt, iZ_le, iZ_eq, lZ_lt, lZ_le, lZ_eq, iZ_64, iZ_N, inb_Z, if_pos, if_neg, ↓reduceIte, Bool.true_eq_false, Bool.false_eq_true, li0, li1, li2, li3, li4, li5, li6, li9, li10, li16, li20, li23, li24, li25, li31, li33, li44, li48, li49, li50, li51, li57, li59, li60, li63, li69, li70, li71, li72, li74, li99, li100, li119, li126, li250, li296, li297, li298, li299, li300, li301, li302, li303, li606, li1515, li1818, li16384, li1048576, li2147483647, li10000, lj0, lj1, lj10000]
theorem rsN (A : B32 a) (S : SR u z sc) (h : ¬ (0 ≤ a ∧ a < sc)) : fX5_requireStroke (iZ a) u = some (.inl 0) := by
  obtain ⟨b0, b1⟩ := A
  have h1 := S.1
  have h2 := S.2.1
  unfold fX5_requireStroke fX1_strokeCount
  by_cases e : a < 0
  · simp (disch := omega) only [h2, Sum.elim_inl, Sum.elim_inr, bi_tr, bi_fa, gd_true, gd_dec, lt_def, bind_s, isb_0, isb_1, iZ_add, iZ_sub, iZ_mul, iZ_neg, lZ_add, lZ_sub, lZ_mul, iZ_lt, iZ_le, iZ_eq, lZ_lt, lZ_le, lZ_eq, iZ_64, iZ_N, inb_Z, if_pos, if_neg, ↓reduceIte, Bool.true_eq_false, Bool.false_eq_true, li0, li1, li2, li3, li4, li5, li6, li9, li10, li16, li20, li23, li24, li25, li31, li33, li44, li48, li49, li50, li51, li57, li59, li60, li63, li69, li70, li71, li72, li74, li99, li100, li119, li126, li250, li296, li297, li298, li299, li300, li301, li302, li303, li606, li1515, li1818, li16384, li1048576, li2147483647, li10000, lj0, lj1, lj10000]
  · simp (disch := omega) only [h2, Sum.elim_inl, Sum.elim_inr, bi_tr, bi_fa, gd_true, gd_dec, lt_def, bind_s, isb_0, isb_1, iZ_add, iZ_sub, iZ_mul, iZ_neg, lZ_add, lZ_sub, lZ_mul, iZ_lt, iZ_le, iZ_eq, lZ_lt, lZ_le, lZ_eq, iZ_64, iZ_N, inb_Z, if_pos, if_neg, ↓reduceIte, Bool.true_eq_false, Bool.false_eq_true, li0, li1, li2, li3, li4, li5, li6, li9, li10, li16, li20, li23, li24, li25, li31, li33, li44, li48, li49, li50, li51, li57, li59, li60, li63, li69, li70, li71, li72, li74, li99, li100, li119, li126, li250, li296, li297, li298, li299, li300, li301, li302, li303, li606, li1515, li1818, li16384, li1048576, li2147483647, li10000, lj0, lj1, lj10000]
theorem exY (A : B32 a) (S : SR u z sc) (h : 0 ≤ a ∧ a < sc) : fX5_existingStroke (iZ a) u = some (.inr a.toNat) := by
  have h1 := S.1
  have h3 := rsY A S h
  have h4 := c_at (u := u) h.1 (show a < 4 by omega)
  unfold fX5_existingStroke
  simp (disch := omega) only [h3, h4, Sum.elim_inl, Sum.elim_inr, bi_tr, bi_fa, gd_true, gd_dec, lt_def, bind_s, isb_0, isb_1, iZ_add, iZ_sub, iZ_mul, iZ_neg, lZ_add, lZ_sub, lZ_mul, iZ_lt, iZ_le, iZ_eq, lZ_lt, lZ_le, lZ_eq, iZ_64, iZ_N, inb_Z, if_pos, if_neg, ↓reduceIte, Bool.true_eq_false, Bool.false_eq_true, li0, li1, li2, li3, li4, li5, li6, li9, li10, li16, li20, li23, li24, li25, li31, li33, li44, li48, li49, li50, li51, li57, li59, li60, li63, li69, li70, li71, li72, li74, li99, li100, li119, li126, li250, li296, li297, li298, li299, li300, li301, li302, li303, li606, li1515, li1818, li16384, li1048576, li2147483647, li10000, lj0, lj1, lj10000]
theorem exN (A : B32 a) (S : SR u z sc) (h : ¬ (0 ≤ a ∧ a < sc)) : fX5_existingStroke (iZ a) u = some (.inl 0) := by
  have h3 := rsN A S h
  unfold fX5_existingStroke
  simp (disch := omega) only [h3, Sum.elim_inl, Sum.elim_inr, bi_tr, bi_fa, gd_true, gd_dec, lt_def, bind_s, isb_0, isb_1, iZ_add, iZ_sub, iZ_mul, iZ_neg, lZ_add, lZ_sub, lZ_mul, iZ_lt, iZ_le, iZ_eq, lZ_lt, lZ_le, lZ_eq, iZ_64, iZ_N, inb_Z, if_pos, if_neg, ↓reduceIte, Bool.true_eq_false, Bool.false_eq_true, li0, li1, li2, li3, li4, li5, li6, li9, li10, li16, li20, li23, li24, li25, li31, li33, li44, li48, li49, li50, li51, li57, li59, li60, li63, li69, li70, li71, li72, li74, li99, li100, li119, li126, li250, li296, li297, li298, li299, li300, li301, li302, li303, li606, li1515, li1818, li16384, li1048576, li2147483647, li10000, lj0, lj1, lj10000]
theorem roomY (S : SR u z sc) (h : sc < 4) : fX5_requireRoomForStroke u = some (.inr ()) := by
  have h1 := S.1
  have h2 := S.2.1
  unfold fX5_requireRoomForStroke fX1_strokeCount
  simp (disch := omega) only [h2, Sum.elim_inl, Sum.elim_inr, bi_tr, bi_fa, gd_true, gd_dec, lt_def, bind_s, isb_0, isb_1, iZ_add, iZ_sub, iZ_mul, iZ_neg, lZ_add, lZ_sub, lZ_mul, iZ_lt, iZ_le, iZ_eq, lZ_lt, lZ_le, lZ_eq, iZ_64, iZ_N, inb_Z, if_pos, if_neg, ↓reduceIte, Bool.true_eq_false, Bool.false_eq_true, li0, li1, li2, li3, li4, li5, li6, li9, li10, li16, li20, li23, li24, li25, li31, li33, li44, li48, li49, li50, li51, li57, li59, li60, li63, li69, li70, li71, li72, li74, li99, li100, li119, li126, li250, li296, li297, li298, li299, li300, li301, li302, li303, li606, li1515, li1818, li16384, li1048576, li2147483647, li10000, lj0, lj1, lj10000]
theorem roomN (S : SR u z sc) (h : ¬ sc < 4) : fX5_requireRoomForStroke u = some (.inl 2) := by
  have h1 := S.1
  have h2 := S.2.1
  unfold fX5_requireRoomForStroke fX1_strokeCount
  simp (disch := omega) only [h2, Sum.elim_inl, Sum.elim_inr, bi_tr, bi_fa, gd_true, gd_dec, lt_def, bind_s, isb_0, isb_1, iZ_add, iZ_sub, iZ_mul, iZ_neg, lZ_add, lZ_sub, lZ_mul, iZ_lt, iZ_le, iZ_eq, lZ_lt, lZ_le, lZ_eq, iZ_64, iZ_N, inb_Z, if_pos, if_neg, ↓reduceIte, Bool.true_eq_false, Bool.false_eq_true, li0, li1, li2, li3, li4, li5, li6, li9, li10, li16, li20, li23, li24, li25, li31, li33, li44, li48, li49, li50, li51, li57, li59, li60, li63, li69, li70, li71, li72, li74, li99, li100, li119, li126, li250, li296, li297, li298, li299, li300, li301, li302, li303, li606, li1515, li1818, li16384, li1048576, li2147483647, li10000, lj0, lj1, lj10000]
theorem ptY {q : Nat → Int32} {n i : Int} {K : Int32} (I : B32 i) (hn : 0 ≤ n ∧ n ≤ 24) (h : 0 ≤ i ∧ i < n) : fX5_requirePoint (iZ i) (q, iZ n, K) = some (.inr ()) := by
  obtain ⟨b0, b1⟩ := I
  unfold fX5_requirePoint fX3_size
  simp (disch := omega) only [S_size, Sum.elim_inl, Sum.elim_inr, bi_tr, bi_fa, gd_true, gd_dec, lt_def, bind_s, isb_0, isb_1, iZ_add, iZ_sub, iZ_mul, iZ_neg, lZ_add, lZ_sub, lZ_mul, iZ_lt, iZ_le, iZ_eq, lZ_lt, lZ_le, lZ_eq, iZ_64, iZ_N, inb_Z, if_pos, if_neg, ↓reduceIte, Bool.true_eq_false, Bool.false_eq_true, li0, li1, li2, li3, li4, li5, li6, li9, li10, li16, li20, li23, li24, li25, li31, li33, li44, li48, li49, li50, li51, li57, li59, li60, li63, li69, li70, li71, li72, li74, li99, li100, li119, li126, li250, li296, li297, li298, li299, li300, li301, li302, li303, li606, li1515, li1818, li16384, li1048576, li2147483647, li10000, lj0, lj1, lj10000]
theorem ptN {q : Nat → Int32} {n i : Int} {K : Int32} (I : B32 i) (hn : 0 ≤ n ∧ n ≤ 24) (h : ¬ (0 ≤ i ∧ i < n)) : fX5_requirePoint (iZ i) (q, iZ n, K) = some (.inl 0) := by
  obtain ⟨b0, b1⟩ := I
  unfold fX5_requirePoint fX3_size
  by_cases e : i < 0
  · simp (disch := omega) only [S_size, Sum.elim_inl, Sum.elim_inr, bi_tr, bi_fa, gd_true, gd_dec, lt_def, bind_s, isb_0, isb_1, iZ_add, iZ_sub, iZ_mul, iZ_neg, lZ_add, lZ_sub, lZ_mul, iZ_lt, iZ_le, iZ_eq, lZ_lt, lZ_le, lZ_eq, iZ_64, iZ_N, inb_Z, if_pos, if_neg, ↓reduceIte, Bool.true_eq_false, Bool.false_eq_true, li0, li1, li2, li3, li4, li5, li6, li9, li10, li16, li20, li23, li24, li25, li31, li33, li44, li48, li49, li50, li51, li57, li59, li60, li63, li69, li70, li71, li72, li74, li99, li100, li119, li126, li250, li296, li297, li298, li299, li300, li301, li302, li303, li606, li1515, li1818, li16384, li1048576, li2147483647, li10000, lj0, lj1, lj10000]
  · simp (disch := omega) only [S_size, Sum.elim_inl, Sum.elim_inr, bi_tr, bi_fa, gd_true, gd_dec, lt_def, bind_s, isb_0, isb_1, iZ_add, iZ_sub, iZ_mul, iZ_neg, lZ_add, lZ_sub, lZ_mul, iZ_lt, iZ_le, iZ_eq, lZ_lt, lZ_le, lZ_eq, iZ_64, iZ_N, inb_Z, if_pos, if_neg, ↓reduceIte, Bool.true_eq_false, Bool.false_eq_true, li0, li1, li2, li3, li4, li5, li6, li9, li10, li16, li20, li23, li24, li25, li31, li33, li44, li48, li49, li50, li51, li57, li59, li60, li63, li69, li70, li71, li72, li74, li99, li100, li119, li126, li250, li296, li297, li298, li299, li300, li301, li302, li303, li606, li1515, li1818, li16384, li1048576, li2147483647, li10000, lj0, lj1, lj10000]
end P1
end
