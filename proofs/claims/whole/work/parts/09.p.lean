section
/-! the whole: what both sides hold; arguments -/
section P0
variable {u : MS} {v : Int32}
theorem Mtt : M_thrown (M_s_thrown u v) = v := rfl
theorem Mtz : M_z (M_s_thrown u v) = M_z u := rfl
theorem Mtl : M_length (M_s_thrown u v) = M_length u := rfl
theorem Mtx : M_text (M_s_thrown u v) = M_text u := rfl
end P0
def NR (ns : NS) (tk sl : Nat → Int32) : Prop := ∀ i : Int, 0 ≤ i → i < 2 → (ns i.toNat = none ∧ tk i.toNat = iZ 0) ∨ ∃ (w : ShS) (sc : Int), ns i.toNat = some w ∧ tk i.toNat = iZ 1 ∧ SR w (zI sl (303 * i)) sc
def TR (ts : TS) (mt : Nat → Int32) (ml : Int32) : Prop := ∃ (L : Int) (tx : Int → Int), (0 ≤ L ∧ L ≤ 70) ∧ T_length ts = iZ L ∧ ml = iZ L ∧ ∀ k : Int, 0 ≤ k → k < L → T_codes ts k.toNat = iZ (tx k) ∧ mt k.toNat = iZ (tx k) ∧ 33 ≤ tx k ∧ tx k ≤ 126
def GR (u : ShS) (ts : TS) (hs : HS) (ns : NS) (m : MS) : Prop := (∃ sc, SR u (M_z m) sc) ∧ (∃ c, M_saves m = iZ c ∧ HR hs (M_saved m) c) ∧ NR ns (M_isTaken m) (M_slots m) ∧ TR ts (M_text m) (M_length m)
theorem GR.th {u : ShS} {ts : TS} {hs : HS} {ns : NS} {m : MS} (h : GR u ts hs ns m) (t : Int32) : GR u ts hs ns (M_s_thrown m t) := h
theorem GR.sm {u : ShS} {ts : TS} {hs : HS} {ns : NS} {m v : MS} (h : GR u ts hs ns m) (s : sameM m v) : GR u ts hs ns v := by
  obtain ⟨⟨sc, h1⟩, ⟨c, h2, h3⟩, h4, h5⟩ := h
  obtain ⟨s1, s2, s3, s4, s5, s6, s7, s8⟩ := s
  exact ⟨⟨sc, by rw [s1]; exact h1⟩, ⟨c, by rw [s3]; exact h2, by rw [s2]; exact h3⟩, by rw [s4, s5]; exact h4, by rw [s6, s7]; exact h5⟩
/-- a state is saved on both sides -/
theorem g_rec {u : ShS} {ts : TS} {hs : HS} {ns : NS} {m : MS} (G : GR u ts hs ns m) : ∃ (hs' : HS) (m2 : MS), fX0_save hs u = some hs' ∧ fX6_record m = some m2 ∧ M_z m2 = M_z m ∧ M_thrown m2 = M_thrown m ∧ M_slots m2 = M_slots m ∧ M_read m2 = M_read m ∧ M_reads m2 = M_reads m ∧ ∀ (ts' : TS) (u' : ShS) (sc' : Int) (v : MS), SR u' (M_z v) sc' → M_saved v = M_saved m2 → M_saves v = M_saves m2 → M_slots v = M_slots m2 → M_isTaken v = M_isTaken m2 → TR ts' (M_text v) (M_length v) → GR u' ts' hs' ns v := by
  obtain ⟨⟨sc, h1⟩, ⟨c, h2, h3⟩, h4, h5⟩ := G
  obtain ⟨o, ho, hc, -⟩ := id h3
  obtain ⟨sv, a1, a2⟩ := r_record h2 hc.1 hc.2
  obtain ⟨hs', b1, b2⟩ := c_save h3 h1 a2
  refine ⟨hs', _, b1, a1, rfl, rfl, rfl, rfl, rfl, fun ts' u' sc' v S e1 e2 e3 e4 T => ⟨⟨sc', S⟩, ⟨cs c + 1, e2, ?_⟩, ?_, T⟩⟩
  · rw [e1]
    exact b2
  · rw [e3, e4]
    exact h4
-- outcomes
def WB (g : kG) (D : Nat → Nat → Nat) (m : MS) (w : va_W) : Prop := ∃ (R : kAd) (u : ShS) (ts : TS) (bs : SS) (ps : PS) (hs : HS) (ns : NS), w = wB g D R u ts bs ps hs ns ∧ GR u ts hs ns m
theorem WB.mk {g : kG} {D : Nat → Nat → Nat} {m : MS} {R : kAd} {u : ShS} {ts : TS} {bs : SS} {ps : PS} {hs : HS} {ns : NS} (G : GR u ts hs ns m) : WB g D m (wB g D R u ts bs ps hs ns) := ⟨R, u, ts, bs, ps, hs, ns, rfl, G⟩
def Gst {S : Type} (g : kG) (Es : List Nat) (D : Nat → Nat → Nat) (out : kOut S) (b : Int32) (m : MS) : Prop := match out with
  | .inl (E, w2) => ∃ k : Nat, Es[k]? = some E ∧ M_thrown m = iZ ((k : Int) + 1) ∧ ∀ s, WB g D m (w2 s)
  | .inr (r, w2) => r = some (.int b) ∧ M_thrown m = iZ 0 ∧ ∀ s, WB g D m (w2 s)
theorem Gst.l {S : Type} {g : kG} {Es : List Nat} {D : Nat → Nat → Nat} {b : Int32} {m : MS} {E : Nat} {w2 : S → va_W} (k : Nat) (h1 : Es[k]? = some E) (h2 : M_thrown m = iZ ((k : Int) + 1)) (h3 : ∀ s, WB g D m (w2 s)) : Gst g Es D (.inl (E, w2)) b m := ⟨k, h1, h2, h3⟩
theorem Gst.r {S : Type} {g : kG} {Es : List Nat} {D : Nat → Nat → Nat} {b : Int32} {m : MS} {w2 : S → va_W} (h2 : M_thrown m = iZ 0) (h3 : ∀ s, WB g D m (w2 s)) : Gst g Es D (.inr (some (.int b), w2)) b m := ⟨rfl, h2, h3⟩
-- arguments
def B32 (a : Int) : Prop := -2147483648 ≤ a ∧ a < 2147483648
theorem iZ_B (x : Int32) : ∃ a : Int, x = iZ a ∧ B32 a := ⟨x.toInt, iZ_of x, Int32.le_toInt x, Int32.toInt_lt x⟩
theorem btwY {a lo hi : Int} (B : B32 a) (h0 : -1000 ≤ lo) (h1 : hi ≤ 1000) (h : lo ≤ a ∧ a ≤ hi) : fX5_requireBetween (iZ a) (iZ lo) (iZ hi) = some (.inr ()) := by
  obtain ⟨b0, b1⟩ := B
  unfold fX5_requireBetween
  simp (disch := omega) only [Mzz, Mzz2, Mtt, Mtz, Mtl, Mtx, Sum.elim_inl, Sum.elim_inr, bi_tr, bi_fa, gd_true, gd_dec, lt_def, bind_s, isb_0, isb_1, iZ_add, iZ_sub, iZ_mul, iZ_neg, lZ_add, lZ_sub, lZ_mul, iZ_lt, iZ_le, iZ_eq, lZ_lt, lZ_le, lZ_eq, iZ_64, iZ_N, inb_Z, if_pos, if_neg, ↓reduceIte, Bool.true_eq_false, Bool.false_eq_true, li0, li1, li2, li3, li4, li5, li6, li9, li10, li16, li20, li23, li24, li25, li31, li33, li44, li48, li49, li50, li51, li57, li59, li60, li63, li69, li70, li71, li72, li74, li99, li100, li119, li126, li250, li296, li297, li298, li299, li300, li301, li302, li303, li606, li1515, li1818, li16384, li1048576, li2147483647, li10000, lj0, lj1, lj10000]
theorem btwN {a lo hi : Int} (B : B32 a) (h0 : -1000 ≤ lo ∧ lo ≤ 1000) (h1 : -1000 ≤ hi ∧ hi ≤ 1000) (h : ¬ (lo ≤ a ∧ a ≤ hi)) : fX5_requireBetween (iZ a) (iZ lo) (iZ hi) = some (.inl 1) := by
  obtain ⟨b0, b1⟩ := B
  unfold fX5_requireBetween
  by_cases e : a < lo
  · simp (disch := omega) only [Mzz, Mzz2, Mtt, Mtz, Mtl, Mtx, Sum.elim_inl, Sum.elim_inr, bi_tr, bi_fa, gd_true, gd_dec, lt_def, bind_s, isb_0, isb_1, iZ_add, iZ_sub, iZ_mul, iZ_neg, lZ_add, lZ_sub, lZ_mul, iZ_lt, iZ_le, iZ_eq, lZ_lt, lZ_le, lZ_eq, iZ_64, iZ_N, inb_Z, if_pos, if_neg, ↓reduceIte, Bool.true_eq_false, Bool.false_eq_true, li0, li1, li2, li3, li4, li5, li6, li9, li10, li16, li20, li23, li24, li25, li31, li33, li44, li48, li49, li50, li51, li57, li59, li60, li63, li69, li70, li71, li72, li74, li99, li100, li119, li126, li250, li296, li297, li298, li299, li300, li301, li302, li303, li606, li1515, li1818, li16384, li1048576, li2147483647, li10000, lj0, lj1, lj10000]
  · simp (disch := omega) only [Mzz, Mzz2, Mtt, Mtz, Mtl, Mtx, Sum.elim_inl, Sum.elim_inr, bi_tr, bi_fa, gd_true, gd_dec, lt_def, bind_s, isb_0, isb_1, iZ_add, iZ_sub, iZ_mul, iZ_neg, lZ_add, lZ_sub, lZ_mul, iZ_lt, iZ_le, iZ_eq, lZ_lt, lZ_le, lZ_eq, iZ_64, iZ_N, inb_Z, if_pos, if_neg, ↓reduceIte, Bool.true_eq_false, Bool.false_eq_true, li0, li1, li2, li3, li4, li5, li6, li9, li10, li16, li20, li23, li24, li25, li31, li33, li44, li48, li49, li50, li51, li57, li59, li60, li63, li69, li70, li71, li72, li74, li99, li100, li119, li126, li250, li296, li297, li298, li299, li300, li301, li302, li303, li606, li1515, li1818, li16384, li1048576, li2147483647, li10000, lj0, lj1, lj10000]
theorem inY {a lo hi : Int} (B : B32 a) (h0 : -1000 ≤ lo) (h1 : hi ≤ 1000) (h : lo ≤ a ∧ a ≤ hi) : fX6_in (iZ a) (iZ lo) (iZ hi) = some (iZ 1) := by
  obtain ⟨b0, b1⟩ := B
  unfold fX6_in
  simp (disch := omega) only [Mzz, Mzz2, Mtt, Mtz, Mtl, Mtx, Sum.elim_inl, Sum.elim_inr, bi_tr, bi_fa, gd_true, gd_dec, lt_def, bind_s, isb_0, isb_1, iZ_add, iZ_sub, iZ_mul, iZ_neg, lZ_add, lZ_sub, lZ_mul, iZ_lt, iZ_le, iZ_eq, lZ_lt, lZ_le, lZ_eq, iZ_64, iZ_N, inb_Z, if_pos, if_neg, ↓reduceIte, Bool.true_eq_false, Bool.false_eq_true, li0, li1, li2, li3, li4, li5, li6, li9, li10, li16, li20, li23, li24, li25, li31, li33, li44, li48, li49, li50, li51, li57, li59, li60, li63, li69, li70, li71, li72, li74, li99, li100, li119, li126, li250, li296, li297, li298, li299, li300, li301, li302, li303, li606, li1515, li1818, li16384, li1048576, li2147483647, li10000, lj0, lj1, lj10000]
theorem inN {a lo hi : Int} (B : B32 a) (h0 : -1000 ≤ lo ∧ lo ≤ 1000) (h1 : -1000 ≤ hi ∧ hi ≤ 1000) (h : ¬ (lo ≤ a ∧ a ≤ hi)) : fX6_in (iZ a) (iZ lo) (iZ hi) = some (iZ 0) := by
  obtain ⟨b0, b1⟩ := B
  unfold fX6_in
  by_cases e : a < lo
  · simp (disch := omega) only [Mzz, Mzz2, Mtt, Mtz, Mtl, Mtx, Sum.elim_inl, Sum.elim_inr, bi_tr, bi_fa, gd_true, gd_dec, lt_def, bind_s, isb_0, isb_1, iZ_add, iZ_sub, iZ_mul, iZ_neg, lZ_add, lZ_sub, lZ_mul, iZ_lt, iZ_le, iZ_eq, lZ_lt, lZ_le, lZ_eq, iZ_64, iZ_N, inb_Z, if_pos, if_neg, ↓reduceIte, Bool.true_eq_false, Bool.false_eq_true, li0, li1, li2, li3, li4, li5, li6, li9, li10, li16, li20, li23, li24, li25, li31, li33, li44, li48, li49, li50, li51, li57, li59, li60, li63, li69, li70, li71, li72, li74, li99, li100, li119, li126, li250, li296, li297, li298, li299, li300, li301, li302, li303, li606, li1515, li1818, li16384, li1048576, li2147483647, li10000, lj0, lj1, lj10000]
  · simp (disch := omega) only [Mzz, Mzz2, Mtt, Mtz, Mtl, Mtx, Sum.elim_inl, Sum.elim_inr, bi_tr, bi_fa, gd_true, gd_dec, lt_def, bind_s, isb_0, isb_1, iZ_add, iZ_sub, iZ_mul, iZ_neg, lZ_add, lZ_sub, lZ_mul, iZ_lt, iZ_le, iZ_eq, lZ_lt, lZ_le, lZ_eq, iZ_64, iZ_N, inb_Z, if_pos, if_neg, ↓reduceIte, Bool.true_eq_false, Bool.false_eq_true, li0, li1, li2, li3, li4, li5, li6, li9, li10, li16, li20, li23, li24, li25, li31, li33, li44, li48, li49, li50, li51, li57, li59, li60, li63, li69, li70, li71, li72, li74, li99, li100, li119, li126, li250, li296, li297, li298, li299, li300, li301, li302, li303, li606, li1515, li1818, li16384, li1048576, li2147483647, li10000, lj0, lj1, lj10000]
def inP (a b : Int) : Prop := (0 ≤ a ∧ a ≤ 99) ∧ 0 ≤ b ∧ b ≤ 99
theorem plcY {a b : Int} (A : B32 a) (B : B32 b) (h : inP a b) : fX5_requirePlace (iZ a) (iZ b) = some (.inr ()) := by
  have h1 := btwY A (lo := 0) (hi := 99) (by omega) (by omega) h.1
  have h2 := btwY B (lo := 0) (hi := 99) (by omega) (by omega) h.2
  unfold fX5_requirePlace
  simp (disch := omega) only [h1, h2, Mzz, Mzz2, Mtt, Mtz, Mtl, Mtx, Sum.elim_inl, Sum.elim_inr, bi_tr, bi_fa, gd_true, gd_dec, lt_def, bind_s, isb_0, isb_1, iZ_add, iZ_sub, iZ_mul, iZ_neg, lZ_add, lZ_sub, lZ_mul, iZ_lt, iZ_le, iZ_eq, lZ_lt, lZ_le, lZ_eq, iZ_64, iZ_N, inb_Z, if_pos, if_neg, ↓reduceIte, Bool.true_eq_false, Bool.false_eq_true, li0, li1, li2, li3, li4, li5, li6, li9, li10, li16, li20, li23, li24, li25, li31, li33, li44, li48, li49, li50, li51, li57, li59, li60, li63, li69, li70, li71, li72, li74, li99, li100, li119, li126, li250, li296, li297, li298, li299, li300, li301, li302, li303, li606, li1515, li1818, li16384, li1048576, li2147483647, li10000, lj0, lj1, lj10000]
theorem plcN {a b : Int} (A : B32 a) (B : B32 b) (h : ¬ inP a b) : fX5_requirePlace (iZ a) (iZ b) = some (.inl 1) := by
  unfold fX5_requirePlace
  by_cases e : 0 ≤ a ∧ a ≤ 99
  · have h1 := btwY A (lo := 0) (hi := 99) (by omega) (by omega) e
    have h2 := btwN B (lo := 0) (hi := 99) (by omega) (by omega) (fun q => h ⟨e, q⟩)
    simp (disch := omega) only [h1, h2, Mzz, Mzz2, Mtt, Mtz, Mtl, Mtx, Sum.elim_inl, Sum.elim_inr, bi_tr, bi_fa, gd_true, gd_dec, lt_def, bind_s, isb_0, isb_1, iZ_add, iZ_sub, iZ_mul, iZ_neg, lZ_add, lZ_sub, lZ_mul, iZ_lt, iZ_le, iZ_eq, lZ_lt, lZ_le, lZ_eq, iZ_64, iZ_N, inb_Z, if_pos, if_neg, ↓reduceIte, Bool.true_eq_false, Bool.false_eq_true, li0, li1, li2, li3, li4, li5, li6, li9, li10, li16, li20, li23, li24, li25, li31, li33, li44, li48, li49, li50, li51, li57, li59, li60, li63, li69, li70, li71, li72, li74, li99, li100, li119, li126, li250, li296, li297, li298, li299, li300, li301, li302, li303, li606, li1515, li1818, li16384, li1048576, li2147483647, li10000, lj0, lj1, lj10000]
  · have h1 := btwN A (lo := 0) (hi := 99) (by omega) (by omega) e
    simp (disch := omega) only [h1, Mzz, Mzz2, Mtt, Mtz, Mtl, Mtx, Sum.elim_inl, Sum.elim_inr, bi_tr, bi_fa, gd_true, gd_dec, lt_def, bind_s, isb_0, isb_1, iZ_add, iZ_sub, iZ_mul, iZ_neg, lZ_add, lZ_sub, lZ_mul, iZ_lt, iZ_le, iZ_eq, lZ_lt, lZ_le, lZ_eq, iZ_64, iZ_N, inb_Z, if_pos, if_neg, ↓reduceIte, Bool.true_eq_false, Bool.false_eq_true, li0, li1, li2, li3, li4, li5, li6, li9, li10, li16, li20, li23, li24, li25, li31, li33, li44, li48, li49, li50, li51, li57, li59, li60, li63, li69, li70, li71, li72, li74, li99, li100, li119, li126, li250, li296, li297, li298, li299, li300, li301, li302, li303, li606, li1515, li1818, li16384, li1048576, li2147483647, li10000, lj0, lj1, lj10000]
theorem atY {a b : Int} (A : B32 a) (B : B32 b) (h : inP a b) : fX6_isAt (iZ a) (iZ b) = some (iZ 1) := by
  have h1 := inY A (lo := 0) (hi := 99) (by omega) (by omega) h.1
  have h2 := inY B (lo := 0) (hi := 99) (by omega) (by omega) h.2
  unfold fX6_isAt
  simp (disch := omega) only [h1, h2, Mzz, Mzz2, Mtt, Mtz, Mtl, Mtx, Sum.elim_inl, Sum.elim_inr, bi_tr, bi_fa, gd_true, gd_dec, lt_def, bind_s, isb_0, isb_1, iZ_add, iZ_sub, iZ_mul, iZ_neg, lZ_add, lZ_sub, lZ_mul, iZ_lt, iZ_le, iZ_eq, lZ_lt, lZ_le, lZ_eq, iZ_64, iZ_N, inb_Z, if_pos, if_neg, ↓reduceIte, Bool.true_eq_false, Bool.false_eq_true, li0, li1, li2, li3, li4, li5, li6, li9, li10, li16, li20, li23, li24, li25, li31, li33, li44, li48, li49, li50, li51, li57, li59, li60, li63, li69, li70, li71, li72, li74, li99, li100, li119, li126, li250, li296, li297, li298, li299, li300, li301, li302, li303, li606, li1515, li1818, li16384, li1048576, li2147483647, li10000, lj0, lj1, lj10000]
theorem atN {a b : Int} (A : B32 a) (B : B32 b) (h : ¬ inP a b) : fX6_isAt (iZ a) (iZ b) = some (iZ 0) := by
  unfold fX6_isAt
  by_cases e : 0 ≤ a ∧ a ≤ 99
  · have h1 := inY A (lo := 0) (hi := 99) (by omega) (by omega) e
    have h2 := inN B (lo := 0) (hi := 99) (by omega) (by omega) (fun q => h ⟨e, q⟩)
    simp (disch := omega) only [h1, h2, Mzz, Mzz2, Mtt, Mtz, Mtl, Mtx, Sum.elim_inl, Sum.elim_inr, bi_tr, bi_fa, gd_true, gd_dec, lt_def, bind_s, isb_0, isb_1, iZ_add, iZ_sub, iZ_mul, iZ_neg, lZ_add, lZ_sub, lZ_mul, iZ_lt, iZ_le, iZ_eq, lZ_lt, lZ_le, lZ_eq, iZ_64, iZ_N, inb_Z, if_pos, if_neg, ↓reduceIte, Bool.true_eq_false, Bool.false_eq_true, li0, li1, li2, li3, li4, li5, li6, li9, li10, li16, li20, li23, li24, li25, li31, li33, li44, li48, li49, li50, li51, li57, li59, li60, li63, li69, li70, li71, li72, li74, li99, li100, li119, li126, li250, li296, li297, li298, li299, li300, li301, li302, li303, li606, li1515, li1818, li16384, li1048576, li2147483647, li10000, lj0, lj1, lj10000]
  · have h1 := inN A (lo := 0) (hi := 99) (by omega) (by omega) e
    simp (disch := omega) only [h1, Mzz, Mzz2, Mtt, Mtz, Mtl, Mtx, Sum.elim_inl, Sum.elim_inr, bi_tr, bi_fa, gd_true, gd_dec, lt_def, bind_s, isb_0, isb_1, iZ_add, iZ_sub, iZ_mul, iZ_neg, lZ_add, lZ_sub, lZ_mul, iZ_lt, iZ_le, iZ_eq, lZ_lt, lZ_le, lZ_eq, iZ_64, iZ_N, inb_Z, if_pos, if_neg, ↓reduceIte, Bool.true_eq_false, Bool.false_eq_true, li0, li1, li2, li3, li4, li5, li6, li9, li10, li16, li20, li23, li24, li25, li31, li33, li44, li48, li49, li50, li51, li57, li59, li60, li63, li69, li70, li71, li72, li74, li99, li100, li119, li126, li250, li296, li297, li298, li299, li300, li301, li302, li303, li606, li1515, li1818, li16384, li1048576, li2147483647, li10000, lj0, lj1, lj10000]
theorem widY {a : Int} (A : B32 a) (h : 1 ≤ a ∧ a ≤ 20) : fX5_requireWidth (iZ a) = some (.inr ()) := by
  have h1 := btwY A (lo := 1) (hi := 20) (by omega) (by omega) h
  unfold fX5_requireWidth
  simp (disch := omega) only [h1, Mzz, Mzz2, Mtt, Mtz, Mtl, Mtx, Sum.elim_inl, Sum.elim_inr, bi_tr, bi_fa, gd_true, gd_dec, lt_def, bind_s, isb_0, isb_1, iZ_add, iZ_sub, iZ_mul, iZ_neg, lZ_add, lZ_sub, lZ_mul, iZ_lt, iZ_le, iZ_eq, lZ_lt, lZ_le, lZ_eq, iZ_64, iZ_N, inb_Z, if_pos, if_neg, ↓reduceIte, Bool.true_eq_false, Bool.false_eq_true, li0, li1, li2, li3, li4, li5, li6, li9, li10, li16, li20, li23, li24, li25, li31, li33, li44, li48, li49, li50, li51, li57, li59, li60, li63, li69, li70, li71, li72, li74, li99, li100, li119, li126, li250, li296, li297, li298, li299, li300, li301, li302, li303, li606, li1515, li1818, li16384, li1048576, li2147483647, li10000, lj0, lj1, lj10000]
theorem widN {a : Int} (A : B32 a) (h : ¬ (1 ≤ a ∧ a ≤ 20)) : fX5_requireWidth (iZ a) = some (.inl 1) := by
  have h1 := btwN A (lo := 1) (hi := 20) (by omega) (by omega) h
  unfold fX5_requireWidth
  simp (disch := omega) only [h1, Mzz, Mzz2, Mtt, Mtz, Mtl, Mtx, Sum.elim_inl, Sum.elim_inr, bi_tr, bi_fa, gd_true, gd_dec, lt_def, bind_s, isb_0, isb_1, iZ_add, iZ_sub, iZ_mul, iZ_neg, lZ_add, lZ_sub, lZ_mul, iZ_lt, iZ_le, iZ_eq, lZ_lt, lZ_le, lZ_eq, iZ_64, iZ_N, inb_Z, if_pos, if_neg, ↓reduceIte, Bool.true_eq_false, Bool.false_eq_true, li0, li1, li2, li3, li4, li5, li6, li9, li10, li16, li20, li23, li24, li25, li31, li33, li44, li48, li49, li50, li51, li57, li59, li60, li63, li69, li70, li71, li72, li74, li99, li100, li119, li126, li250, li296, li297, li298, li299, li300, li301, li302, li303, li606, li1515, li1818, li16384, li1048576, li2147483647, li10000, lj0, lj1, lj10000]
theorem wayY {a : Int} (A : B32 a) (h : 0 ≤ a ∧ a ≤ 1) : fX5_requireWay (iZ a) = some (.inr ()) := by
  have h1 := btwY A (lo := 0) (hi := 1) (by omega) (by omega) h
  unfold fX5_requireWay
  simp (disch := omega) only [h1, Mzz, Mzz2, Mtt, Mtz, Mtl, Mtx, Sum.elim_inl, Sum.elim_inr, bi_tr, bi_fa, gd_true, gd_dec, lt_def, bind_s, isb_0, isb_1, iZ_add, iZ_sub, iZ_mul, iZ_neg, lZ_add, lZ_sub, lZ_mul, iZ_lt, iZ_le, iZ_eq, lZ_lt, lZ_le, lZ_eq, iZ_64, iZ_N, inb_Z, if_pos, if_neg, ↓reduceIte, Bool.true_eq_false, Bool.false_eq_true, li0, li1, li2, li3, li4, li5, li6, li9, li10, li16, li20, li23, li24, li25, li31, li33, li44, li48, li49, li50, li51, li57, li59, li60, li63, li69, li70, li71, li72, li74, li99, li100, li119, li126, li250, li296, li297, li298, li299, li300, li301, li302, li303, li606, li1515, li1818, li16384, li1048576, li2147483647, li10000, lj0, lj1, lj10000]
theorem wayN {a : Int} (A : B32 a) (h : ¬ (0 ≤ a ∧ a ≤ 1)) : fX5_requireWay (iZ a) = some (.inl 1) := by
  have h1 := btwN A (lo := 0) (hi := 1) (by omega) (by omega) h
  unfold fX5_requireWay
  simp (disch := omega) only [h1, Mzz, Mzz2, Mtt, Mtz, Mtl, Mtx, Sum.elim_inl, Sum.elim_inr, bi_tr, bi_fa, gd_true, gd_dec, lt_def, bind_s, isb_0, isb_1, iZ_add, iZ_sub, iZ_mul, iZ_neg, lZ_add, lZ_sub, lZ_mul, iZ_lt, iZ_le, iZ_eq, lZ_lt, lZ_le, lZ_eq, iZ_64, iZ_N, inb_Z, if_pos, if_neg, ↓reduceIte, Bool.true_eq_false, Bool.false_eq_true, li0, li1, li2, li3, li4, li5, li6, li9, li10, li16, li20, li23, li24, li25, li31, li33, li44, li48, li49, li50, li51, li57, li59, li60, li63, li69, li70, li71, li72, li74, li99, li100, li119, li126, li250, li296, li297, li298, li299, li300, li301, li302, li303, li606, li1515, li1818, li16384, li1048576, li2147483647, li10000, lj0, lj1, lj10000]
theorem nbrY {a b w : Int} (A : B32 a) (B : B32 b) (W : B32 w) (h : inP a b) (hw : 1 ≤ w ∧ w ≤ 20) : fX6_isNumbers (iZ a) (iZ b) (iZ w) = some (iZ 1) := by
  have h1 := atY A B h
  have h2 := inY W (lo := 1) (hi := 20) (by omega) (by omega) hw
  unfold fX6_isNumbers
  simp (disch := omega) only [h1, h2, Mzz, Mzz2, Mtt, Mtz, Mtl, Mtx, Sum.elim_inl, Sum.elim_inr, bi_tr, bi_fa, gd_true, gd_dec, lt_def, bind_s, isb_0, isb_1, iZ_add, iZ_sub, iZ_mul, iZ_neg, lZ_add, lZ_sub, lZ_mul, iZ_lt, iZ_le, iZ_eq, lZ_lt, lZ_le, lZ_eq, iZ_64, iZ_N, inb_Z, if_pos, if_neg, ↓reduceIte, Bool.true_eq_false, Bool.false_eq_true, li0, li1, li2, li3, li4, li5, li6, li9, li10, li16, li20, li23, li24, li25, li31, li33, li44, li48, li49, li50, li51, li57, li59, li60, li63, li69, li70, li71, li72, li74, li99, li100, li119, li126, li250, li296, li297, li298, li299, li300, li301, li302, li303, li606, li1515, li1818, li16384, li1048576, li2147483647, li10000, lj0, lj1, lj10000]
theorem nbrN {a b w : Int} (A : B32 a) (B : B32 b) (W : B32 w) (h : ¬ (inP a b ∧ 1 ≤ w ∧ w ≤ 20)) : fX6_isNumbers (iZ a) (iZ b) (iZ w) = some (iZ 0) := by
  unfold fX6_isNumbers
  by_cases e : inP a b
  · have h1 := atY A B e
    have h2 := inN W (lo := 1) (hi := 20) (by omega) (by omega) (fun q => h ⟨e, q⟩)
    simp (disch := omega) only [h1, h2, Mzz, Mzz2, Mtt, Mtz, Mtl, Mtx, Sum.elim_inl, Sum.elim_inr, bi_tr, bi_fa, gd_true, gd_dec, lt_def, bind_s, isb_0, isb_1, iZ_add, iZ_sub, iZ_mul, iZ_neg, lZ_add, lZ_sub, lZ_mul, iZ_lt, iZ_le, iZ_eq, lZ_lt, lZ_le, lZ_eq, iZ_64, iZ_N, inb_Z, if_pos, if_neg, ↓reduceIte, Bool.true_eq_false, Bool.false_eq_true, li0, li1, li2, li3, li4, li5, li6, li9, li10, li16, li20, li23, li24, li25, li31, li33, li44, li48, li49, li50, li51, li57, li59, li60, li63, li69, li70, li71, li72, li74, li99, li100, li119, li126, li250, li296, li297, li298, li299, li300, li301, li302, li303, li606, li1515, li1818, li16384, li1048576, li2147483647, li10000, lj0, lj1, lj10000]
  · have h1 := atN A B e
    simp (disch := omega) only [h1, Mzz, Mzz2, Mtt, Mtz, Mtl, Mtx, Sum.elim_inl, Sum.elim_inr, bi_tr, bi_fa, gd_true, gd_dec, lt_def, bind_s, isb_0, isb_1, iZ_add, iZ_sub, iZ_mul, iZ_neg, lZ_add, lZ_sub, lZ_mul, iZ_lt, iZ_le, iZ_eq, lZ_lt, lZ_le, lZ_eq, iZ_64, iZ_N, inb_Z, if_pos, if_neg, ↓reduceIte, Bool.true_eq_false, Bool.false_eq_true, li0, li1, li2, li3, li4, li5, li6, li9, li10, li16, li20, li23, li24, li25, li31, li33, li44, li48, li49, li50, li51, li57, li59, li60, li63, li69, li70, li71, li72, li74, li99, li100, li119, li126, li250, li296, li297, li298, li299, li300, li301, li302, li303, li606, li1515, li1818, li16384, li1048576, li2147483647, li10000, lj0, lj1, lj10000]
theorem stgY {a : Int} (A : B32 a) (h : 0 ≤ a ∧ a < 4) : fX5_requireSetting (iZ a) = some (.inr ()) := by
  obtain ⟨b0, b1⟩ := A
  unfold fX5_requireSetting
  simp (disch := omega) only [Mzz, Mzz2, Mtt, Mtz, Mtl, Mtx, Sum.elim_inl, Sum.elim_inr, bi_tr, bi_fa, gd_true, gd_dec, lt_def, bind_s, isb_0, isb_1, iZ_add, iZ_sub, iZ_mul, iZ_neg, lZ_add, lZ_sub, lZ_mul, iZ_lt, iZ_le, iZ_eq, lZ_lt, lZ_le, lZ_eq, iZ_64, iZ_N, inb_Z, if_pos, if_neg, ↓reduceIte, Bool.true_eq_false, Bool.false_eq_true, li0, li1, li2, li3, li4, li5, li6, li9, li10, li16, li20, li23, li24, li25, li31, li33, li44, li48, li49, li50, li51, li57, li59, li60, li63, li69, li70, li71, li72, li74, li99, li100, li119, li126, li250, li296, li297, li298, li299, li300, li301, li302, li303, li606, li1515, li1818, li16384, li1048576, li2147483647, li10000, lj0, lj1, lj10000]
theorem stgN {a : Int} (A : B32 a) (h : ¬ (0 ≤ a ∧ a < 4)) : fX5_requireSetting (iZ a) = some (.inl 0) := by
  obtain ⟨b0, b1⟩ := A
  unfold fX5_requireSetting
  by_cases e : a < 0
  · simp (disch := omega) only [Mzz, Mzz2, Mtt, Mtz, Mtl, Mtx, Sum.elim_inl, Sum.elim_inr, bi_tr, bi_fa, gd_true, gd_dec, lt_def, bind_s, isb_0, isb_1, iZ_add, iZ_sub, iZ_mul, iZ_neg, lZ_add, lZ_sub, lZ_mul, iZ_lt, iZ_le, iZ_eq, lZ_lt, lZ_le, lZ_eq, iZ_64, iZ_N, inb_Z, if_pos, if_neg, ↓reduceIte, Bool.true_eq_false, Bool.false_eq_true, li0, li1, li2, li3, li4, li5, li6, li9, li10, li16, li20, li23, li24, li25, li31, li33, li44, li48, li49, li50, li51, li57, li59, li60, li63, li69, li70, li71, li72, li74, li99, li100, li119, li126, li250, li296, li297, li298, li299, li300, li301, li302, li303, li606, li1515, li1818, li16384, li1048576, li2147483647, li10000, lj0, lj1, lj10000]
  · simp (disch := omega) only [Mzz, Mzz2, Mtt, Mtz, Mtl, Mtx, Sum.elim_inl, Sum.elim_inr, bi_tr, bi_fa, gd_true, gd_dec, lt_def, bind_s, isb_0, isb_1, iZ_add, iZ_sub, iZ_mul, iZ_neg, lZ_add, lZ_sub, lZ_mul, iZ_lt, iZ_le, iZ_eq, lZ_lt, lZ_le, lZ_eq, iZ_64, iZ_N, inb_Z, if_pos, if_neg, ↓reduceIte, Bool.true_eq_false, Bool.false_eq_true, li0, li1, li2, li3, li4, li5, li6, li9, li10, li16, li20, li23, li24, li25, li31, li33, li44, li48, li49, li50, li51, li57, li59, li60, li63, li69, li70, li71, li72, li74, li99, li100, li119, li126, li250, li296, li297, li298, li299, li300, li301, li302, li303, li606, li1515, li1818, li16384, li1048576, li2147483647, li10000, lj0, lj1, lj10000]
section P1
variable {u : ShS} {m : MS} {sc a : Int}
theorem rsY (A : B32 a) (S : SR u (M_z m) sc) (h : 0 ≤ a ∧ a < sc) : fX5_requireStroke (iZ a) u = some (.inr ()) := by
  obtain ⟨b0, b1⟩ := A
  have h1 := S.1
  have h2 := S.2.1
  unfold fX5_requireStroke fX1_strokeCount
  simp (disch := omega) only [h2, Mzz, Mzz2, Mtt, Mtz, Mtl, Mtx, Sum.elim_inl, Sum.elim_inr, bi_tr, bi_fa, gd_true, gd_dec, lt_def, bind_s, isb_0, isb_1, iZ_add, iZ_sub, iZ_mul, iZ_neg, lZ_add, lZ_sub, lZ_mul, iZ_lt, iZ_le, iZ_eq, lZ_lt, lZ_le, lZ_eq, iZ_64, iZ_N, inb_Z, if_pos, if_neg, ↓reduceIte, Bool.true_eq_false, Bool.false_eq_true, li0, li1, li2, li3, li4, li5, li6, li9, li10, li16, li20, li23, li24, li25, li31, li33, li44, li48, li49, li50, li51, li57, li59, li60, li63, li69, li70, li71, li72, li74, li99, li100, li119, li126, li250, li296, li297, li298, li299, li300, li301, li302, li303, li606, li1515, li1818, li16384, li1048576, li2147483647, li10000, lj0, lj1, lj10000]
theorem rsN (A : B32 a) (S : SR u (M_z m) sc) (h : ¬ (0 ≤ a ∧ a < sc)) : fX5_requireStroke (iZ a) u = some (.inl 0) := by
  obtain ⟨b0, b1⟩ := A
  have h1 := S.1
  have h2 := S.2.1
  unfold fX5_requireStroke fX1_strokeCount
  by_cases e : a < 0
  · simp (disch := omega) only [h2, Mzz, Mzz2, Mtt, Mtz, Mtl, Mtx, Sum.elim_inl, Sum.elim_inr, bi_tr, bi_fa, gd_true, gd_dec, lt_def, bind_s, isb_0, isb_1, iZ_add, iZ_sub, iZ_mul, iZ_neg, lZ_add, lZ_sub, lZ_mul, iZ_lt, iZ_le, iZ_eq, lZ_lt, lZ_le, lZ_eq, iZ_64, iZ_N, inb_Z, if_pos, if_neg, ↓reduceIte, Bool.true_eq_false, Bool.false_eq_true, li0, li1, li2, li3, li4, li5, li6, li9, li10, li16, li20, li23, li24, li25, li31, li33, li44, li48, li49, li50, li51, li57, li59, li60, li63, li69, li70, li71, li72, li74, li99, li100, li119, li126, li250, li296, li297, li298, li299, li300, li301, li302, li303, li606, li1515, li1818, li16384, li1048576, li2147483647, li10000, lj0, lj1, lj10000]
  · simp (disch := omega) only [h2, Mzz, Mzz2, Mtt, Mtz, Mtl, Mtx, Sum.elim_inl, Sum.elim_inr, bi_tr, bi_fa, gd_true, gd_dec, lt_def, bind_s, isb_0, isb_1, iZ_add, iZ_sub, iZ_mul, iZ_neg, lZ_add, lZ_sub, lZ_mul, iZ_lt, iZ_le, iZ_eq, lZ_lt, lZ_le, lZ_eq, iZ_64, iZ_N, inb_Z, if_pos, if_neg, ↓reduceIte, Bool.true_eq_false, Bool.false_eq_true, li0, li1, li2, li3, li4, li5, li6, li9, li10, li16, li20, li23, li24, li25, li31, li33, li44, li48, li49, li50, li51, li57, li59, li60, li63, li69, li70, li71, li72, li74, li99, li100, li119, li126, li250, li296, li297, li298, li299, li300, li301, li302, li303, li606, li1515, li1818, li16384, li1048576, li2147483647, li10000, lj0, lj1, lj10000]
theorem exY (A : B32 a) (S : SR u (M_z m) sc) (h : 0 ≤ a ∧ a < sc) : fX5_existingStroke (iZ a) u = some (.inr a.toNat) := by
  have h1 := S.1
  have h3 := rsY A S h
  have h4 := c_at (u := u) h.1 (show a < 4 by omega)
  unfold fX5_existingStroke
  simp (disch := omega) only [h3, h4, Mzz, Mzz2, Mtt, Mtz, Mtl, Mtx, Sum.elim_inl, Sum.elim_inr, bi_tr, bi_fa, gd_true, gd_dec, lt_def, bind_s, isb_0, isb_1, iZ_add, iZ_sub, iZ_mul, iZ_neg, lZ_add, lZ_sub, lZ_mul, iZ_lt, iZ_le, iZ_eq, lZ_lt, lZ_le, lZ_eq, iZ_64, iZ_N, inb_Z, if_pos, if_neg, ↓reduceIte, Bool.true_eq_false, Bool.false_eq_true, li0, li1, li2, li3, li4, li5, li6, li9, li10, li16, li20, li23, li24, li25, li31, li33, li44, li48, li49, li50, li51, li57, li59, li60, li63, li69, li70, li71, li72, li74, li99, li100, li119, li126, li250, li296, li297, li298, li299, li300, li301, li302, li303, li606, li1515, li1818, li16384, li1048576, li2147483647, li10000, lj0, lj1, lj10000]
theorem exN (A : B32 a) (S : SR u (M_z m) sc) (h : ¬ (0 ≤ a ∧ a < sc)) : fX5_existingStroke (iZ a) u = some (.inl 0) := by
  have h3 := rsN A S h
  unfold fX5_existingStroke
  simp (disch := omega) only [h3, Mzz, Mzz2, Mtt, Mtz, Mtl, Mtx, Sum.elim_inl, Sum.elim_inr, bi_tr, bi_fa, gd_true, gd_dec, lt_def, bind_s, isb_0, isb_1, iZ_add, iZ_sub, iZ_mul, iZ_neg, lZ_add, lZ_sub, lZ_mul, iZ_lt, iZ_le, iZ_eq, lZ_lt, lZ_le, lZ_eq, iZ_64, iZ_N, inb_Z, if_pos, if_neg, ↓reduceIte, Bool.true_eq_false, Bool.false_eq_true, li0, li1, li2, li3, li4, li5, li6, li9, li10, li16, li20, li23, li24, li25, li31, li33, li44, li48, li49, li50, li51, li57, li59, li60, li63, li69, li70, li71, li72, li74, li99, li100, li119, li126, li250, li296, li297, li298, li299, li300, li301, li302, li303, li606, li1515, li1818, li16384, li1048576, li2147483647, li10000, lj0, lj1, lj10000]
theorem isY (A : B32 a) (S : SR u (M_z m) sc) (h : 0 ≤ a ∧ a < sc) : fX6_isStroke (iZ a) m = some (iZ 1) := by
  have h1 := S.1
  have h2 := S.2.2.1
  have h3 := inY A (lo := 0) (hi := sc - 1) (by omega) (by omega) (by omega)
  unfold fX6_isStroke
  simp (disch := omega) only [h2, h3, Mzz, Mzz2, Mtt, Mtz, Mtl, Mtx, Sum.elim_inl, Sum.elim_inr, bi_tr, bi_fa, gd_true, gd_dec, lt_def, bind_s, isb_0, isb_1, iZ_add, iZ_sub, iZ_mul, iZ_neg, lZ_add, lZ_sub, lZ_mul, iZ_lt, iZ_le, iZ_eq, lZ_lt, lZ_le, lZ_eq, iZ_64, iZ_N, inb_Z, if_pos, if_neg, ↓reduceIte, Bool.true_eq_false, Bool.false_eq_true, li0, li1, li2, li3, li4, li5, li6, li9, li10, li16, li20, li23, li24, li25, li31, li33, li44, li48, li49, li50, li51, li57, li59, li60, li63, li69, li70, li71, li72, li74, li99, li100, li119, li126, li250, li296, li297, li298, li299, li300, li301, li302, li303, li606, li1515, li1818, li16384, li1048576, li2147483647, li10000, lj0, lj1, lj10000]
theorem isN (A : B32 a) (S : SR u (M_z m) sc) (h : ¬ (0 ≤ a ∧ a < sc)) : fX6_isStroke (iZ a) m = some (iZ 0) := by
  have h1 := S.1
  have h2 := S.2.2.1
  have h3 := inN A (lo := 0) (hi := sc - 1) (by omega) (by omega) (by omega)
  unfold fX6_isStroke
  simp (disch := omega) only [h2, h3, Mzz, Mzz2, Mtt, Mtz, Mtl, Mtx, Sum.elim_inl, Sum.elim_inr, bi_tr, bi_fa, gd_true, gd_dec, lt_def, bind_s, isb_0, isb_1, iZ_add, iZ_sub, iZ_mul, iZ_neg, lZ_add, lZ_sub, lZ_mul, iZ_lt, iZ_le, iZ_eq, lZ_lt, lZ_le, lZ_eq, iZ_64, iZ_N, inb_Z, if_pos, if_neg, ↓reduceIte, Bool.true_eq_false, Bool.false_eq_true, li0, li1, li2, li3, li4, li5, li6, li9, li10, li16, li20, li23, li24, li25, li31, li33, li44, li48, li49, li50, li51, li57, li59, li60, li63, li69, li70, li71, li72, li74, li99, li100, li119, li126, li250, li296, li297, li298, li299, li300, li301, li302, li303, li606, li1515, li1818, li16384, li1048576, li2147483647, li10000, lj0, lj1, lj10000]
theorem roomY (S : SR u (M_z m) sc) (h : sc < 4) : fX5_requireRoomForStroke u = some (.inr ()) := by
  have h1 := S.1
  have h2 := S.2.1
  unfold fX5_requireRoomForStroke fX1_strokeCount
  simp (disch := omega) only [h2, Mzz, Mzz2, Mtt, Mtz, Mtl, Mtx, Sum.elim_inl, Sum.elim_inr, bi_tr, bi_fa, gd_true, gd_dec, lt_def, bind_s, isb_0, isb_1, iZ_add, iZ_sub, iZ_mul, iZ_neg, lZ_add, lZ_sub, lZ_mul, iZ_lt, iZ_le, iZ_eq, lZ_lt, lZ_le, lZ_eq, iZ_64, iZ_N, inb_Z, if_pos, if_neg, ↓reduceIte, Bool.true_eq_false, Bool.false_eq_true, li0, li1, li2, li3, li4, li5, li6, li9, li10, li16, li20, li23, li24, li25, li31, li33, li44, li48, li49, li50, li51, li57, li59, li60, li63, li69, li70, li71, li72, li74, li99, li100, li119, li126, li250, li296, li297, li298, li299, li300, li301, li302, li303, li606, li1515, li1818, li16384, li1048576, li2147483647, li10000, lj0, lj1, lj10000]
theorem roomN (S : SR u (M_z m) sc) (h : ¬ sc < 4) : fX5_requireRoomForStroke u = some (.inl 2) := by
  have h1 := S.1
  have h2 := S.2.1
  unfold fX5_requireRoomForStroke fX1_strokeCount
  simp (disch := omega) only [h2, Mzz, Mzz2, Mtt, Mtz, Mtl, Mtx, Sum.elim_inl, Sum.elim_inr, bi_tr, bi_fa, gd_true, gd_dec, lt_def, bind_s, isb_0, isb_1, iZ_add, iZ_sub, iZ_mul, iZ_neg, lZ_add, lZ_sub, lZ_mul, iZ_lt, iZ_le, iZ_eq, lZ_lt, lZ_le, lZ_eq, iZ_64, iZ_N, inb_Z, if_pos, if_neg, ↓reduceIte, Bool.true_eq_false, Bool.false_eq_true, li0, li1, li2, li3, li4, li5, li6, li9, li10, li16, li20, li23, li24, li25, li31, li33, li44, li48, li49, li50, li51, li57, li59, li60, li63, li69, li70, li71, li72, li74, li99, li100, li119, li126, li250, li296, li297, li298, li299, li300, li301, li302, li303, li606, li1515, li1818, li16384, li1048576, li2147483647, li10000, lj0, lj1, lj10000]
theorem ptY {q : Nat → Int32} {n i : Int} {K : Int32} (I : B32 i) (hn : 0 ≤ n ∧ n ≤ 24) (h : 0 ≤ i ∧ i < n) : fX5_requirePoint (iZ i) (q, iZ n, K) = some (.inr ()) := by
  obtain ⟨b0, b1⟩ := I
  unfold fX5_requirePoint fX3_size
  simp (disch := omega) only [S_size, Mzz, Mzz2, Mtt, Mtz, Mtl, Mtx, Sum.elim_inl, Sum.elim_inr, bi_tr, bi_fa, gd_true, gd_dec, lt_def, bind_s, isb_0, isb_1, iZ_add, iZ_sub, iZ_mul, iZ_neg, lZ_add, lZ_sub, lZ_mul, iZ_lt, iZ_le, iZ_eq, lZ_lt, lZ_le, lZ_eq, iZ_64, iZ_N, inb_Z, if_pos, if_neg, ↓reduceIte, Bool.true_eq_false, Bool.false_eq_true, li0, li1, li2, li3, li4, li5, li6, li9, li10, li16, li20, li23, li24, li25, li31, li33, li44, li48, li49, li50, li51, li57, li59, li60, li63, li69, li70, li71, li72, li74, li99, li100, li119, li126, li250, li296, li297, li298, li299, li300, li301, li302, li303, li606, li1515, li1818, li16384, li1048576, li2147483647, li10000, lj0, lj1, lj10000]
theorem ptN {q : Nat → Int32} {n i : Int} {K : Int32} (I : B32 i) (hn : 0 ≤ n ∧ n ≤ 24) (h : ¬ (0 ≤ i ∧ i < n)) : fX5_requirePoint (iZ i) (q, iZ n, K) = some (.inl 0) := by
  obtain ⟨b0, b1⟩ := I
  unfold fX5_requirePoint fX3_size
  by_cases e : i < 0
  · simp (disch := omega) only [S_size, Mzz, Mzz2, Mtt, Mtz, Mtl, Mtx, Sum.elim_inl, Sum.elim_inr, bi_tr, bi_fa, gd_true, gd_dec, lt_def, bind_s, isb_0, isb_1, iZ_add, iZ_sub, iZ_mul, iZ_neg, lZ_add, lZ_sub, lZ_mul, iZ_lt, iZ_le, iZ_eq, lZ_lt, lZ_le, lZ_eq, iZ_64, iZ_N, inb_Z, if_pos, if_neg, ↓reduceIte, Bool.true_eq_false, Bool.false_eq_true, li0, li1, li2, li3, li4, li5, li6, li9, li10, li16, li20, li23, li24, li25, li31, li33, li44, li48, li49, li50, li51, li57, li59, li60, li63, li69, li70, li71, li72, li74, li99, li100, li119, li126, li250, li296, li297, li298, li299, li300, li301, li302, li303, li606, li1515, li1818, li16384, li1048576, li2147483647, li10000, lj0, lj1, lj10000]
  · simp (disch := omega) only [S_size, Mzz, Mzz2, Mtt, Mtz, Mtl, Mtx, Sum.elim_inl, Sum.elim_inr, bi_tr, bi_fa, gd_true, gd_dec, lt_def, bind_s, isb_0, isb_1, iZ_add, iZ_sub, iZ_mul, iZ_neg, lZ_add, lZ_sub, lZ_mul, iZ_lt, iZ_le, iZ_eq, lZ_lt, lZ_le, lZ_eq, iZ_64, iZ_N, inb_Z, if_pos, if_neg, ↓reduceIte, Bool.true_eq_false, Bool.false_eq_true, li0, li1, li2, li3, li4, li5, li6, li9, li10, li16, li20, li23, li24, li25, li31, li33, li44, li48, li49, li50, li51, li57, li59, li60, li63, li69, li70, li71, li72, li74, li99, li100, li119, li126, li250, li296, li297, li298, li299, li300, li301, li302, li303, li606, li1515, li1818, li16384, li1048576, li2147483647, li10000, lj0, lj1, lj10000]
theorem ipY {n i : Int} {N : Int → Int} {K : Int32} (A : B32 a) (I : B32 i) (S : SR u (M_z m) sc) (h : 0 ≤ a ∧ a < sc) (R : RMs m a n N K) (hi : 0 ≤ i ∧ i < n) : fX6_isPoint (iZ a) (iZ i) m = some (iZ 1) := by
  have hn := R.1
  have h1 := isY A S h
  have h2 := r_pts R
  have h3 := inY I (lo := 0) (hi := n - 1) (by omega) (by omega) (by omega)
  unfold fX6_isPoint
  simp (disch := omega) only [h1, h2, h3, Mzz, Mzz2, Mtt, Mtz, Mtl, Mtx, Sum.elim_inl, Sum.elim_inr, bi_tr, bi_fa, gd_true, gd_dec, lt_def, bind_s, isb_0, isb_1, iZ_add, iZ_sub, iZ_mul, iZ_neg, lZ_add, lZ_sub, lZ_mul, iZ_lt, iZ_le, iZ_eq, lZ_lt, lZ_le, lZ_eq, iZ_64, iZ_N, inb_Z, if_pos, if_neg, ↓reduceIte, Bool.true_eq_false, Bool.false_eq_true, li0, li1, li2, li3, li4, li5, li6, li9, li10, li16, li20, li23, li24, li25, li31, li33, li44, li48, li49, li50, li51, li57, li59, li60, li63, li69, li70, li71, li72, li74, li99, li100, li119, li126, li250, li296, li297, li298, li299, li300, li301, li302, li303, li606, li1515, li1818, li16384, li1048576, li2147483647, li10000, lj0, lj1, lj10000]
theorem ipN {n i : Int} {N : Int → Int} {K : Int32} (A : B32 a) (I : B32 i) (S : SR u (M_z m) sc) (h : 0 ≤ a ∧ a < sc) (R : RMs m a n N K) (hi : ¬ (0 ≤ i ∧ i < n)) : fX6_isPoint (iZ a) (iZ i) m = some (iZ 0) := by
  have hn := R.1
  have h1 := isY A S h
  have h2 := r_pts R
  have h3 := inN I (lo := 0) (hi := n - 1) (by omega) (by omega) (by omega)
  unfold fX6_isPoint
  simp (disch := omega) only [h1, h2, h3, Mzz, Mzz2, Mtt, Mtz, Mtl, Mtx, Sum.elim_inl, Sum.elim_inr, bi_tr, bi_fa, gd_true, gd_dec, lt_def, bind_s, isb_0, isb_1, iZ_add, iZ_sub, iZ_mul, iZ_neg, lZ_add, lZ_sub, lZ_mul, iZ_lt, iZ_le, iZ_eq, lZ_lt, lZ_le, lZ_eq, iZ_64, iZ_N, inb_Z, if_pos, if_neg, ↓reduceIte, Bool.true_eq_false, Bool.false_eq_true, li0, li1, li2, li3, li4, li5, li6, li9, li10, li16, li20, li23, li24, li25, li31, li33, li44, li48, li49, li50, li51, li57, li59, li60, li63, li69, li70, li71, li72, li74, li99, li100, li119, li126, li250, li296, li297, li298, li299, li300, li301, li302, li303, li606, li1515, li1818, li16384, li1048576, li2147483647, li10000, lj0, lj1, lj10000]
theorem ipS {i : Int} (A : B32 a) (S : SR u (M_z m) sc) (h : ¬ (0 ≤ a ∧ a < sc)) : fX6_isPoint (iZ a) (iZ i) m = some (iZ 0) := by
  have h1 := isN A S h
  unfold fX6_isPoint
  simp (disch := omega) only [h1, Mzz, Mzz2, Mtt, Mtz, Mtl, Mtx, Sum.elim_inl, Sum.elim_inr, bi_tr, bi_fa, gd_true, gd_dec, lt_def, bind_s, isb_0, isb_1, iZ_add, iZ_sub, iZ_mul, iZ_neg, lZ_add, lZ_sub, lZ_mul, iZ_lt, iZ_le, iZ_eq, lZ_lt, lZ_le, lZ_eq, iZ_64, iZ_N, inb_Z, if_pos, if_neg, ↓reduceIte, Bool.true_eq_false, Bool.false_eq_true, li0, li1, li2, li3, li4, li5, li6, li9, li10, li16, li20, li23, li24, li25, li31, li33, li44, li48, li49, li50, li51, li57, li59, li60, li63, li69, li70, li71, li72, li74, li99, li100, li119, li126, li250, li296, li297, li298, li299, li300, li301, li302, li303, li606, li1515, li1818, li16384, li1048576, li2147483647, li10000, lj0, lj1, lj10000]
end P1
end
