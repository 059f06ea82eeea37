section
/-! the whole: queries -/
theorem SR.v0 {u : ShS} {m : MS} {sc : Int} (S : SR u (M_z m) sc) : ∃ v : Int, fX1_value (iZ 0) u = some (iZ v) ∧ M_z m 297 = iZ v ∧ 0 ≤ v ∧ v ≤ 50 := S.val (i := 0) (by omega) (by omega)
theorem SR.v1 {u : ShS} {m : MS} {sc : Int} (S : SR u (M_z m) sc) : ∃ v : Int, fX1_value (iZ 1) u = some (iZ v) ∧ M_z m 298 = iZ v ∧ 0 ≤ v ∧ v ≤ 100 := S.val (i := 1) (by omega) (by omega)
theorem SR.v2 {u : ShS} {m : MS} {sc : Int} (S : SR u (M_z m) sc) : ∃ v : Int, fX1_value (iZ 2) u = some (iZ v) ∧ M_z m 299 = iZ v ∧ 1 ≤ v ∧ v ≤ 20 := S.val (i := 2) (by omega) (by omega)
theorem SR.v3 {u : ShS} {m : MS} {sc : Int} (S : SR u (M_z m) sc) : ∃ v : Int, fX1_value (iZ 3) u = some (iZ v) ∧ M_z m 300 = iZ v ∧ 0 ≤ v ∧ v ≤ 100 := S.val (i := 3) (by omega) (by omega)
section Q
variable {g : kG} {D : Nat → Nat → Nat} {R : kAd} {u : ShS} {ts : TS} {bs : SS} {ps : PS} {hs : HS} {ns : NS} {m : MS}
theorem g_crossings (G : GR u ts hs ns m) (p1 : Int32) : ∃ (o : Nat ⊕ Int32) (b : Int32) (m' : MS), fX5_crossings p1 u = some o ∧ fX6_crossings p1 m = some (b, m') ∧ Gst g [0] D (obX5_crossings g D R u ts bs ps hs ns o) b m' := by
  obtain ⟨a, rfl, A⟩ := iZ_B p1
  obtain ⟨⟨sc, S⟩, -⟩ := id G
  have hsc := S.1
  by_cases ha : 0 ≤ a ∧ a < sc
  · obtain ⟨n, N, K, q, hst, hm, M, hc, Rm⟩ := S.rms ha.1 ha.2
    have hn := M.1
    have f1 := exY A S ha
    have f2 := isY A S ha
    have f3 := c_crossings hm hc M
    have Rm1 : RMs (M_s_thrown m (iZ 0)) a n N K := Rm
    have f4 := r_crossings Rm1 hc M
    have f5 := r_kept Rm1
    have f6 := r_pts Rm1
    refine ⟨.inr (iZ (su (csF N K n) 1 n)), iZ (su (csF N K n) 1 n), M_s_thrown m (iZ 0), ?_, ?_, Gst.r rfl (fun _ => WB.mk G)⟩
    · unfold fX5_crossings
      simp (disch := omega) only [f1, hst, f3, Mzz, Mzz2, Mtt, Mtz, Mtl, Mtx, Sum.elim_inl, Sum.elim_inr, bi_tr, bi_fa, gd_true, gd_dec, lt_def, bind_s, isb_0, isb_1, iZ_add, iZ_sub, iZ_mul, iZ_neg, lZ_add, lZ_sub, lZ_mul, iZ_lt, iZ_le, iZ_eq, lZ_lt, lZ_le, lZ_eq, iZ_64, iZ_N, inb_Z, if_pos, if_neg, ↓reduceIte, Bool.true_eq_false, Bool.false_eq_true, li0, li1, li2, li3, li4, li5, li6, li9, li10, li16, li20, li23, li24, li25, li31, li33, li44, li48, li49, li50, li51, li57, li59, li60, li63, li69, li70, li71, li72, li74, li99, li100, li119, li126, li250, li296, li297, li298, li299, li300, li301, li302, li303, li606, li1515, li1818, li16384, li1048576, li2147483647, li10000, lj0, lj1, lj10000]
    · unfold fX6_crossings
      simp (disch := omega) only [f2, f4, f5, f6, Mzz, Mzz2, Mtt, Mtz, Mtl, Mtx, Sum.elim_inl, Sum.elim_inr, bi_tr, bi_fa, gd_true, gd_dec, lt_def, bind_s, isb_0, isb_1, iZ_add, iZ_sub, iZ_mul, iZ_neg, lZ_add, lZ_sub, lZ_mul, iZ_lt, iZ_le, iZ_eq, lZ_lt, lZ_le, lZ_eq, iZ_64, iZ_N, inb_Z, if_pos, if_neg, ↓reduceIte, Bool.true_eq_false, Bool.false_eq_true, li0, li1, li2, li3, li4, li5, li6, li9, li10, li16, li20, li23, li24, li25, li31, li33, li44, li48, li49, li50, li51, li57, li59, li60, li63, li69, li70, li71, li72, li74, li99, li100, li119, li126, li250, li296, li297, li298, li299, li300, li301, li302, li303, li606, li1515, li1818, li16384, li1048576, li2147483647, li10000, lj0, lj1, lj10000]
  · have f1 := exN A S ha
    have f2 := isN A S ha
    refine ⟨.inl 0, iZ 0, M_s_thrown m (iZ 1), ?_, ?_, Gst.l 0 rfl rfl (fun _ => WB.mk G)⟩
    · unfold fX5_crossings
      simp (disch := omega) only [f1, Mzz, Mzz2, Mtt, Mtz, Mtl, Mtx, Sum.elim_inl, Sum.elim_inr, bi_tr, bi_fa, gd_true, gd_dec, lt_def, bind_s, isb_0, isb_1, iZ_add, iZ_sub, iZ_mul, iZ_neg, lZ_add, lZ_sub, lZ_mul, iZ_lt, iZ_le, iZ_eq, lZ_lt, lZ_le, lZ_eq, iZ_64, iZ_N, inb_Z, if_pos, if_neg, ↓reduceIte, Bool.true_eq_false, Bool.false_eq_true, li0, li1, li2, li3, li4, li5, li6, li9, li10, li16, li20, li23, li24, li25, li31, li33, li44, li48, li49, li50, li51, li57, li59, li60, li63, li69, li70, li71, li72, li74, li99, li100, li119, li126, li250, li296, li297, li298, li299, li300, li301, li302, li303, li606, li1515, li1818, li16384, li1048576, li2147483647, li10000, lj0, lj1, lj10000]
    · unfold fX6_crossings
      simp (disch := omega) only [f2, Mzz, Mzz2, Mtt, Mtz, Mtl, Mtx, Sum.elim_inl, Sum.elim_inr, bi_tr, bi_fa, gd_true, gd_dec, lt_def, bind_s, isb_0, isb_1, iZ_add, iZ_sub, iZ_mul, iZ_neg, lZ_add, lZ_sub, lZ_mul, iZ_lt, iZ_le, iZ_eq, lZ_lt, lZ_le, lZ_eq, iZ_64, iZ_N, inb_Z, if_pos, if_neg, ↓reduceIte, Bool.true_eq_false, Bool.false_eq_true, li0, li1, li2, li3, li4, li5, li6, li9, li10, li16, li20, li23, li24, li25, li31, li33, li44, li48, li49, li50, li51, li57, li59, li60, li63, li69, li70, li71, li72, li74, li99, li100, li119, li126, li250, li296, li297, li298, li299, li300, li301, li302, li303, li606, li1515, li1818, li16384, li1048576, li2147483647, li10000, lj0, lj1, lj10000]
theorem g_setting (G : GR u ts hs ns m) (p1 : Int32) : ∃ (o : Nat ⊕ Int32) (b : Int32) (m' : MS), fX5_setting p1 u = some o ∧ fX6_setting p1 m = some (b, m') ∧ Gst g [0] D (obX5_setting g D R u ts bs ps hs ns o) b m' := by
  obtain ⟨a, rfl, A⟩ := iZ_B p1
  obtain ⟨⟨sc, S⟩, -⟩ := id G
  by_cases ha : 0 ≤ a ∧ a < 4
  · have f1 := stgY A ha
    have f2 := inY A (lo := 0) (hi := 3) (by omega) (by omega) (by omega)
    obtain ⟨v, f3, f4, f5⟩ := S.val ha.1 ha.2
    refine ⟨.inr (iZ v), iZ v, M_s_thrown m (iZ 0), ?_, ?_, Gst.r rfl (fun _ => WB.mk G)⟩
    · unfold fX5_setting
      simp (disch := omega) only [f1, f3, Mzz, Mzz2, Mtt, Mtz, Mtl, Mtx, Sum.elim_inl, Sum.elim_inr, bi_tr, bi_fa, gd_true, gd_dec, lt_def, bind_s, isb_0, isb_1, iZ_add, iZ_sub, iZ_mul, iZ_neg, lZ_add, lZ_sub, lZ_mul, iZ_lt, iZ_le, iZ_eq, lZ_lt, lZ_le, lZ_eq, iZ_64, iZ_N, inb_Z, if_pos, if_neg, ↓reduceIte, Bool.true_eq_false, Bool.false_eq_true, li0, li1, li2, li3, li4, li5, li6, li9, li10, li16, li20, li23, li24, li25, li31, li33, li44, li48, li49, li50, li51, li57, li59, li60, li63, li69, li70, li71, li72, li74, li99, li100, li119, li126, li250, li296, li297, li298, li299, li300, li301, li302, li303, li606, li1515, li1818, li16384, li1048576, li2147483647, li10000, lj0, lj1, lj10000]
    · unfold fX6_setting
      simp (disch := omega) only [f2, f4, Mzz, Mzz2, Mtt, Mtz, Mtl, Mtx, Sum.elim_inl, Sum.elim_inr, bi_tr, bi_fa, gd_true, gd_dec, lt_def, bind_s, isb_0, isb_1, iZ_add, iZ_sub, iZ_mul, iZ_neg, lZ_add, lZ_sub, lZ_mul, iZ_lt, iZ_le, iZ_eq, lZ_lt, lZ_le, lZ_eq, iZ_64, iZ_N, inb_Z, if_pos, if_neg, ↓reduceIte, Bool.true_eq_false, Bool.false_eq_true, li0, li1, li2, li3, li4, li5, li6, li9, li10, li16, li20, li23, li24, li25, li31, li33, li44, li48, li49, li50, li51, li57, li59, li60, li63, li69, li70, li71, li72, li74, li99, li100, li119, li126, li250, li296, li297, li298, li299, li300, li301, li302, li303, li606, li1515, li1818, li16384, li1048576, li2147483647, li10000, lj0, lj1, lj10000]
  · have f1 := stgN A ha
    have f2 := inN A (lo := 0) (hi := 3) (by omega) (by omega) (by omega)
    refine ⟨.inl 0, iZ 0, M_s_thrown m (iZ 1), ?_, ?_, Gst.l 0 rfl rfl (fun _ => WB.mk G)⟩
    · unfold fX5_setting
      simp (disch := omega) only [f1, Mzz, Mzz2, Mtt, Mtz, Mtl, Mtx, Sum.elim_inl, Sum.elim_inr, bi_tr, bi_fa, gd_true, gd_dec, lt_def, bind_s, isb_0, isb_1, iZ_add, iZ_sub, iZ_mul, iZ_neg, lZ_add, lZ_sub, lZ_mul, iZ_lt, iZ_le, iZ_eq, lZ_lt, lZ_le, lZ_eq, iZ_64, iZ_N, inb_Z, if_pos, if_neg, ↓reduceIte, Bool.true_eq_false, Bool.false_eq_true, li0, li1, li2, li3, li4, li5, li6, li9, li10, li16, li20, li23, li24, li25, li31, li33, li44, li48, li49, li50, li51, li57, li59, li60, li63, li69, li70, li71, li72, li74, li99, li100, li119, li126, li250, li296, li297, li298, li299, li300, li301, li302, li303, li606, li1515, li1818, li16384, li1048576, li2147483647, li10000, lj0, lj1, lj10000]
    · unfold fX6_setting
      simp (disch := omega) only [f2, Mzz, Mzz2, Mtt, Mtz, Mtl, Mtx, Sum.elim_inl, Sum.elim_inr, bi_tr, bi_fa, gd_true, gd_dec, lt_def, bind_s, isb_0, isb_1, iZ_add, iZ_sub, iZ_mul, iZ_neg, lZ_add, lZ_sub, lZ_mul, iZ_lt, iZ_le, iZ_eq, lZ_lt, lZ_le, lZ_eq, iZ_64, iZ_N, inb_Z, if_pos, if_neg, ↓reduceIte, Bool.true_eq_false, Bool.false_eq_true, li0, li1, li2, li3, li4, li5, li6, li9, li10, li16, li20, li23, li24, li25, li31, li33, li44, li48, li49, li50, li51, li57, li59, li60, li63, li69, li70, li71, li72, li74, li99, li100, li119, li126, li250, li296, li297, li298, li299, li300, li301, li302, li303, li606, li1515, li1818, li16384, li1048576, li2147483647, li10000, lj0, lj1, lj10000]
theorem g_distance (G : GR u ts hs ns m) (p1 p2 p3 p4 : Int32) : ∃ (o : Nat ⊕ Int32) (b : Int32) (m' : MS), fX5_distance p1 p2 p3 p4 u = some o ∧ fX6_distance p1 p2 p3 p4 m = some (b, m') ∧ Gst g [0] D (obX5_distance g D R u ts bs ps hs ns o) b m' := by
  obtain ⟨a, rfl, A⟩ := iZ_B p1
  obtain ⟨i, rfl, I⟩ := iZ_B p2
  obtain ⟨j, rfl, J⟩ := iZ_B p3
  obtain ⟨k, rfl, K9⟩ := iZ_B p4
  obtain ⟨⟨sc, S⟩, -⟩ := id G
  have hsc := S.1
  by_cases ha : 0 ≤ a ∧ a < sc
  · obtain ⟨n, N, K, q, hst, hm, M, hc, Rm⟩ := S.rms ha.1 ha.2
    have hn := M.1
    have f1 := exY A S ha
    by_cases hi : 0 ≤ i ∧ i < n
    · have f2 := ptY (q := q) (K := K) I (by omega) hi
      have e2 := ipY A I S ha Rm hi
      by_cases hj : 0 ≤ j ∧ j < n
      · have f3 := ptY (q := q) (K := K) J (by omega) hj
        have e3 := ipY A J S ha Rm hj
        by_cases hk : 0 ≤ k ∧ k < n
        · have f4 := ptY (q := q) (K := K) K9 (by omega) hk
          have e4 := ipY A K9 S ha Rm hk
          have Rm1 : RMs (M_s_thrown m (iZ 0)) a n N K := Rm
          have f5 := c_hund (s := iZ n) (K := K) hm hc hn.2 hi.1 hi.2 hj.1 hj.2 hk.1 hk.2
          have e5 := r_hund Rm1 hc hi.1 hi.2 hj.1 hj.2 hk.1 hk.2
          refine ⟨.inr (iZ (hD N i j k)), iZ (hD N i j k), ab (M_s_thrown m (iZ 0)) (lZ (abD N i j k), lZ (beD N i j k)), ?_, ?_, Gst.r rfl (fun _ => WB.mk (GR.sm (G.th (iZ 0)) (sameM.ab _ _)))⟩
          · unfold fX5_distance
            simp (disch := omega) only [f1, hst, f2, f3, f4, f5, Mzz, Mzz2, Mtt, Mtz, Mtl, Mtx, Sum.elim_inl, Sum.elim_inr, bi_tr, bi_fa, gd_true, gd_dec, lt_def, bind_s, isb_0, isb_1, iZ_add, iZ_sub, iZ_mul, iZ_neg, lZ_add, lZ_sub, lZ_mul, iZ_lt, iZ_le, iZ_eq, lZ_lt, lZ_le, lZ_eq, iZ_64, iZ_N, inb_Z, if_pos, if_neg, ↓reduceIte, Bool.true_eq_false, Bool.false_eq_true, li0, li1, li2, li3, li4, li5, li6, li9, li10, li16, li20, li23, li24, li25, li31, li33, li44, li48, li49, li50, li51, li57, li59, li60, li63, li69, li70, li71, li72, li74, li99, li100, li119, li126, li250, li296, li297, li298, li299, li300, li301, li302, li303, li606, li1515, li1818, li16384, li1048576, li2147483647, li10000, lj0, lj1, lj10000]
          · unfold fX6_distance
            simp (disch := omega) only [e2, e3, e4, e5, Mzz, Mzz2, Mtt, Mtz, Mtl, Mtx, Sum.elim_inl, Sum.elim_inr, bi_tr, bi_fa, gd_true, gd_dec, lt_def, bind_s, isb_0, isb_1, iZ_add, iZ_sub, iZ_mul, iZ_neg, lZ_add, lZ_sub, lZ_mul, iZ_lt, iZ_le, iZ_eq, lZ_lt, lZ_le, lZ_eq, iZ_64, iZ_N, inb_Z, if_pos, if_neg, ↓reduceIte, Bool.true_eq_false, Bool.false_eq_true, li0, li1, li2, li3, li4, li5, li6, li9, li10, li16, li20, li23, li24, li25, li31, li33, li44, li48, li49, li50, li51, li57, li59, li60, li63, li69, li70, li71, li72, li74, li99, li100, li119, li126, li250, li296, li297, li298, li299, li300, li301, li302, li303, li606, li1515, li1818, li16384, li1048576, li2147483647, li10000, lj0, lj1, lj10000] <;> rfl
        · have f4 := ptN (q := q) (K := K) K9 (by omega) hk
          have e4 := ipN A K9 S ha Rm hk
          refine ⟨.inl 0, iZ 0, M_s_thrown m (iZ 1), ?_, ?_, Gst.l 0 rfl rfl (fun _ => WB.mk G)⟩
          · unfold fX5_distance
            simp (disch := omega) only [f1, hst, f2, f3, f4, Mzz, Mzz2, Mtt, Mtz, Mtl, Mtx, Sum.elim_inl, Sum.elim_inr, bi_tr, bi_fa, gd_true, gd_dec, lt_def, bind_s, isb_0, isb_1, iZ_add, iZ_sub, iZ_mul, iZ_neg, lZ_add, lZ_sub, lZ_mul, iZ_lt, iZ_le, iZ_eq, lZ_lt, lZ_le, lZ_eq, iZ_64, iZ_N, inb_Z, if_pos, if_neg, ↓reduceIte, Bool.true_eq_false, Bool.false_eq_true, li0, li1, li2, li3, li4, li5, li6, li9, li10, li16, li20, li23, li24, li25, li31, li33, li44, li48, li49, li50, li51, li57, li59, li60, li63, li69, li70, li71, li72, li74, li99, li100, li119, li126, li250, li296, li297, li298, li299, li300, li301, li302, li303, li606, li1515, li1818, li16384, li1048576, li2147483647, li10000, lj0, lj1, lj10000]
          · unfold fX6_distance
            simp (disch := omega) only [e2, e3, e4, Mzz, Mzz2, Mtt, Mtz, Mtl, Mtx, Sum.elim_inl, Sum.elim_inr, bi_tr, bi_fa, gd_true, gd_dec, lt_def, bind_s, isb_0, isb_1, iZ_add, iZ_sub, iZ_mul, iZ_neg, lZ_add, lZ_sub, lZ_mul, iZ_lt, iZ_le, iZ_eq, lZ_lt, lZ_le, lZ_eq, iZ_64, iZ_N, inb_Z, if_pos, if_neg, ↓reduceIte, Bool.true_eq_false, Bool.false_eq_true, li0, li1, li2, li3, li4, li5, li6, li9, li10, li16, li20, li23, li24, li25, li31, li33, li44, li48, li49, li50, li51, li57, li59, li60, li63, li69, li70, li71, li72, li74, li99, li100, li119, li126, li250, li296, li297, li298, li299, li300, li301, li302, li303, li606, li1515, li1818, li16384, li1048576, li2147483647, li10000, lj0, lj1, lj10000]
      · have f3 := ptN (q := q) (K := K) J (by omega) hj
        have e3 := ipN A J S ha Rm hj
        refine ⟨.inl 0, iZ 0, M_s_thrown m (iZ 1), ?_, ?_, Gst.l 0 rfl rfl (fun _ => WB.mk G)⟩
        · unfold fX5_distance
          simp (disch := omega) only [f1, hst, f2, f3, Mzz, Mzz2, Mtt, Mtz, Mtl, Mtx, Sum.elim_inl, Sum.elim_inr, bi_tr, bi_fa, gd_true, gd_dec, lt_def, bind_s, isb_0, isb_1, iZ_add, iZ_sub, iZ_mul, iZ_neg, lZ_add, lZ_sub, lZ_mul, iZ_lt, iZ_le, iZ_eq, lZ_lt, lZ_le, lZ_eq, iZ_64, iZ_N, inb_Z, if_pos, if_neg, ↓reduceIte, Bool.true_eq_false, Bool.false_eq_true, li0, li1, li2, li3, li4, li5, li6, li9, li10, li16, li20, li23, li24, li25, li31, li33, li44, li48, li49, li50, li51, li57, li59, li60, li63, li69, li70, li71, li72, li74, li99, li100, li119, li126, li250, li296, li297, li298, li299, li300, li301, li302, li303, li606, li1515, li1818, li16384, li1048576, li2147483647, li10000, lj0, lj1, lj10000]
        · unfold fX6_distance
          simp (disch := omega) only [e2, e3, Mzz, Mzz2, Mtt, Mtz, Mtl, Mtx, Sum.elim_inl, Sum.elim_inr, bi_tr, bi_fa, gd_true, gd_dec, lt_def, bind_s, isb_0, isb_1, iZ_add, iZ_sub, iZ_mul, iZ_neg, lZ_add, lZ_sub, lZ_mul, iZ_lt, iZ_le, iZ_eq, lZ_lt, lZ_le, lZ_eq, iZ_64, iZ_N, inb_Z, if_pos, if_neg, ↓reduceIte, Bool.true_eq_false, Bool.false_eq_true, li0, li1, li2, li3, li4, li5, li6, li9, li10, li16, li20, li23, li24, li25, li31, li33, li44, li48, li49, li50, li51, li57, li59, li60, li63, li69, li70, li71, li72, li74, li99, li100, li119, li126, li250, li296, li297, li298, li299, li300, li301, li302, li303, li606, li1515, li1818, li16384, li1048576, li2147483647, li10000, lj0, lj1, lj10000]
    · have f2 := ptN (q := q) (K := K) I (by omega) hi
      have e2 := ipN A I S ha Rm hi
      refine ⟨.inl 0, iZ 0, M_s_thrown m (iZ 1), ?_, ?_, Gst.l 0 rfl rfl (fun _ => WB.mk G)⟩
      · unfold fX5_distance
        simp (disch := omega) only [f1, hst, f2, Mzz, Mzz2, Mtt, Mtz, Mtl, Mtx, Sum.elim_inl, Sum.elim_inr, bi_tr, bi_fa, gd_true, gd_dec, lt_def, bind_s, isb_0, isb_1, iZ_add, iZ_sub, iZ_mul, iZ_neg, lZ_add, lZ_sub, lZ_mul, iZ_lt, iZ_le, iZ_eq, lZ_lt, lZ_le, lZ_eq, iZ_64, iZ_N, inb_Z, if_pos, if_neg, ↓reduceIte, Bool.true_eq_false, Bool.false_eq_true, li0, li1, li2, li3, li4, li5, li6, li9, li10, li16, li20, li23, li24, li25, li31, li33, li44, li48, li49, li50, li51, li57, li59, li60, li63, li69, li70, li71, li72, li74, li99, li100, li119, li126, li250, li296, li297, li298, li299, li300, li301, li302, li303, li606, li1515, li1818, li16384, li1048576, li2147483647, li10000, lj0, lj1, lj10000]
      · unfold fX6_distance
        simp (disch := omega) only [e2, Mzz, Mzz2, Mtt, Mtz, Mtl, Mtx, Sum.elim_inl, Sum.elim_inr, bi_tr, bi_fa, gd_true, gd_dec, lt_def, bind_s, isb_0, isb_1, iZ_add, iZ_sub, iZ_mul, iZ_neg, lZ_add, lZ_sub, lZ_mul, iZ_lt, iZ_le, iZ_eq, lZ_lt, lZ_le, lZ_eq, iZ_64, iZ_N, inb_Z, if_pos, if_neg, ↓reduceIte, Bool.true_eq_false, Bool.false_eq_true, li0, li1, li2, li3, li4, li5, li6, li9, li10, li16, li20, li23, li24, li25, li31, li33, li44, li48, li49, li50, li51, li57, li59, li60, li63, li69, li70, li71, li72, li74, li99, li100, li119, li126, li250, li296, li297, li298, li299, li300, li301, li302, li303, li606, li1515, li1818, li16384, li1048576, li2147483647, li10000, lj0, lj1, lj10000]
  · have f1 := exN A S ha
    have e2 := ipS (i := i) A S ha
    refine ⟨.inl 0, iZ 0, M_s_thrown m (iZ 1), ?_, ?_, Gst.l 0 rfl rfl (fun _ => WB.mk G)⟩
    · unfold fX5_distance
      simp (disch := omega) only [f1, Mzz, Mzz2, Mtt, Mtz, Mtl, Mtx, Sum.elim_inl, Sum.elim_inr, bi_tr, bi_fa, gd_true, gd_dec, lt_def, bind_s, isb_0, isb_1, iZ_add, iZ_sub, iZ_mul, iZ_neg, lZ_add, lZ_sub, lZ_mul, iZ_lt, iZ_le, iZ_eq, lZ_lt, lZ_le, lZ_eq, iZ_64, iZ_N, inb_Z, if_pos, if_neg, ↓reduceIte, Bool.true_eq_false, Bool.false_eq_true, li0, li1, li2, li3, li4, li5, li6, li9, li10, li16, li20, li23, li24, li25, li31, li33, li44, li48, li49, li50, li51, li57, li59, li60, li63, li69, li70, li71, li72, li74, li99, li100, li119, li126, li250, li296, li297, li298, li299, li300, li301, li302, li303, li606, li1515, li1818, li16384, li1048576, li2147483647, li10000, lj0, lj1, lj10000]
    · unfold fX6_distance
      simp (disch := omega) only [e2, Mzz, Mzz2, Mtt, Mtz, Mtl, Mtx, Sum.elim_inl, Sum.elim_inr, bi_tr, bi_fa, gd_true, gd_dec, lt_def, bind_s, isb_0, isb_1, iZ_add, iZ_sub, iZ_mul, iZ_neg, lZ_add, lZ_sub, lZ_mul, iZ_lt, iZ_le, iZ_eq, lZ_lt, lZ_le, lZ_eq, iZ_64, iZ_N, inb_Z, if_pos, if_neg, ↓reduceIte, Bool.true_eq_false, Bool.false_eq_true, li0, li1, li2, li3, li4, li5, li6, li9, li10, li16, li20, li23, li24, li25, li31, li33, li44, li48, li49, li50, li51, li57, li59, li60, li63, li69, li70, li71, li72, li74, li99, li100, li119, li126, li250, li296, li297, li298, li299, li300, li301, li302, li303, li606, li1515, li1818, li16384, li1048576, li2147483647, li10000, lj0, lj1, lj10000]
theorem g_point (G : GR u ts hs ns m) (p1 p2 p3 : Int32) : ∃ (o : Nat ⊕ Int32) (b : Int32) (m' : MS), fX5_point p1 p2 p3 u = some o ∧ fX6_point p1 p2 p3 m = some (b, m') ∧ Gst g [0, 1] D (obX5_point g D R u ts bs ps hs ns o) b m' := by
  obtain ⟨a, rfl, A⟩ := iZ_B p1
  obtain ⟨i, rfl, I⟩ := iZ_B p2
  obtain ⟨w, rfl, W⟩ := iZ_B p3
  obtain ⟨⟨sc, S⟩, -⟩ := id G
  have hsc := S.1
  by_cases ha : 0 ≤ a ∧ a < sc
  · obtain ⟨n, N, K, q, hst, hm, M, hc, Rm⟩ := S.rms ha.1 ha.2
    have hn := M.1
    have f1 := exY A S ha
    by_cases hi : 0 ≤ i ∧ i < n
    · have f2 := ptY (q := q) (K := K) I (by omega) hi
      have e2 := ipY A I S ha Rm hi
      have Rm1 : RMs (M_s_thrown m (iZ 0)) a n N K := Rm
      by_cases hw : 0 ≤ w ∧ w ≤ 5
      · have e3 := inY W (lo := 0) (hi := 5) (by omega) (by omega) hw
        by_cases w3 : w < 3
        · have e4 := r_of Rm1 hi.1 hi.2 (w := w) hw.1 w3
          refine ⟨.inr (iZ (N (3 * i + w))), iZ (N (3 * i + w)), M_s_thrown m (iZ 0), ?_, ?_, Gst.r rfl (fun _ => WB.mk G)⟩
          · unfold fX5_point
            by_cases w0 : w = 0
            · have f5 := c_x (s := iZ n) (K := K) hm hn.2 hi.1 hi.2
              subst w0
              rw [Int.add_zero]
              simp (disch := omega) only [f1, hst, f2, f5, Mzz, Mzz2, Mtt, Mtz, Mtl, Mtx, Sum.elim_inl, Sum.elim_inr, bi_tr, bi_fa, gd_true, gd_dec, lt_def, bind_s, isb_0, isb_1, iZ_add, iZ_sub, iZ_mul, iZ_neg, lZ_add, lZ_sub, lZ_mul, iZ_lt, iZ_le, iZ_eq, lZ_lt, lZ_le, lZ_eq, iZ_64, iZ_N, inb_Z, if_pos, if_neg, ↓reduceIte, Bool.true_eq_false, Bool.false_eq_true, li0, li1, li2, li3, li4, li5, li6, li9, li10, li16, li20, li23, li24, li25, li31, li33, li44, li48, li49, li50, li51, li57, li59, li60, li63, li69, li70, li71, li72, li74, li99, li100, li119, li126, li250, li296, li297, li298, li299, li300, li301, li302, li303, li606, li1515, li1818, li16384, li1048576, li2147483647, li10000, lj0, lj1, lj10000]
            · by_cases w1 : w = 1
              · have f5 := c_y (s := iZ n) (K := K) hm hn.2 hi.1 hi.2
                subst w1
                simp (disch := omega) only [f1, hst, f2, f5, Mzz, Mzz2, Mtt, Mtz, Mtl, Mtx, Sum.elim_inl, Sum.elim_inr, bi_tr, bi_fa, gd_true, gd_dec, lt_def, bind_s, isb_0, isb_1, iZ_add, iZ_sub, iZ_mul, iZ_neg, lZ_add, lZ_sub, lZ_mul, iZ_lt, iZ_le, iZ_eq, lZ_lt, lZ_le, lZ_eq, iZ_64, iZ_N, inb_Z, if_pos, if_neg, ↓reduceIte, Bool.true_eq_false, Bool.false_eq_true, li0, li1, li2, li3, li4, li5, li6, li9, li10, li16, li20, li23, li24, li25, li31, li33, li44, li48, li49, li50, li51, li57, li59, li60, li63, li69, li70, li71, li72, li74, li99, li100, li119, li126, li250, li296, li297, li298, li299, li300, li301, li302, li303, li606, li1515, li1818, li16384, li1048576, li2147483647, li10000, lj0, lj1, lj10000]
              · have : w = 2 := by omega
                subst this
                have f5 := c_w (s := iZ n) (K := K) hm hn.2 hi.1 hi.2
                simp (disch := omega) only [f1, hst, f2, f5, Mzz, Mzz2, Mtt, Mtz, Mtl, Mtx, Sum.elim_inl, Sum.elim_inr, bi_tr, bi_fa, gd_true, gd_dec, lt_def, bind_s, isb_0, isb_1, iZ_add, iZ_sub, iZ_mul, iZ_neg, lZ_add, lZ_sub, lZ_mul, iZ_lt, iZ_le, iZ_eq, lZ_lt, lZ_le, lZ_eq, iZ_64, iZ_N, inb_Z, if_pos, if_neg, ↓reduceIte, Bool.true_eq_false, Bool.false_eq_true, li0, li1, li2, li3, li4, li5, li6, li9, li10, li16, li20, li23, li24, li25, li31, li33, li44, li48, li49, li50, li51, li57, li59, li60, li63, li69, li70, li71, li72, li74, li99, li100, li119, li126, li250, li296, li297, li298, li299, li300, li301, li302, li303, li606, li1515, li1818, li16384, li1048576, li2147483647, li10000, lj0, lj1, lj10000]
          · unfold fX6_point
            simp (disch := omega) only [e2, e3, e4, Mzz, Mzz2, Mtt, Mtz, Mtl, Mtx, Sum.elim_inl, Sum.elim_inr, bi_tr, bi_fa, gd_true, gd_dec, lt_def, bind_s, isb_0, isb_1, iZ_add, iZ_sub, iZ_mul, iZ_neg, lZ_add, lZ_sub, lZ_mul, iZ_lt, iZ_le, iZ_eq, lZ_lt, lZ_le, lZ_eq, iZ_64, iZ_N, inb_Z, if_pos, if_neg, ↓reduceIte, Bool.true_eq_false, Bool.false_eq_true, li0, li1, li2, li3, li4, li5, li6, li9, li10, li16, li20, li23, li24, li25, li31, li33, li44, li48, li49, li50, li51, li57, li59, li60, li63, li69, li70, li71, li72, li74, li99, li100, li119, li126, li250, li296, li297, li298, li299, li300, li301, li302, li303, li606, li1515, li1818, li16384, li1048576, li2147483647, li10000, lj0, lj1, lj10000]
        · by_cases w4 : w = 3
          · subst w4
            have f5 := c_kept (m := q) (s := iZ n) (K := K) hi.1 (show i < 24 by omega)
            have e5 := r_kept Rm1
            have e6 := hb_v (K := K) hi.1 (show i < 32 by omega)
            refine ⟨.inr (iZ (bi (hb K i))), iZ (bi (hb K i)), M_s_thrown m (iZ 0), ?_, ?_, Gst.r rfl (fun _ => WB.mk G)⟩
            · unfold fX5_point
              cases hk : hb K i with
              | true =>
                rw [hk] at f5
                simp (disch := omega) only [f1, hst, f2, f5, Mzz, Mzz2, Mtt, Mtz, Mtl, Mtx, Sum.elim_inl, Sum.elim_inr, bi_tr, bi_fa, gd_true, gd_dec, lt_def, bind_s, isb_0, isb_1, iZ_add, iZ_sub, iZ_mul, iZ_neg, lZ_add, lZ_sub, lZ_mul, iZ_lt, iZ_le, iZ_eq, lZ_lt, lZ_le, lZ_eq, iZ_64, iZ_N, inb_Z, if_pos, if_neg, ↓reduceIte, Bool.true_eq_false, Bool.false_eq_true, li0, li1, li2, li3, li4, li5, li6, li9, li10, li16, li20, li23, li24, li25, li31, li33, li44, li48, li49, li50, li51, li57, li59, li60, li63, li69, li70, li71, li72, li74, li99, li100, li119, li126, li250, li296, li297, li298, li299, li300, li301, li302, li303, li606, li1515, li1818, li16384, li1048576, li2147483647, li10000, lj0, lj1, lj10000]
              | false =>
                rw [hk] at f5
                simp (disch := omega) only [f1, hst, f2, f5, Mzz, Mzz2, Mtt, Mtz, Mtl, Mtx, Sum.elim_inl, Sum.elim_inr, bi_tr, bi_fa, gd_true, gd_dec, lt_def, bind_s, isb_0, isb_1, iZ_add, iZ_sub, iZ_mul, iZ_neg, lZ_add, lZ_sub, lZ_mul, iZ_lt, iZ_le, iZ_eq, lZ_lt, lZ_le, lZ_eq, iZ_64, iZ_N, inb_Z, if_pos, if_neg, ↓reduceIte, Bool.true_eq_false, Bool.false_eq_true, li0, li1, li2, li3, li4, li5, li6, li9, li10, li16, li20, li23, li24, li25, li31, li33, li44, li48, li49, li50, li51, li57, li59, li60, li63, li69, li70, li71, li72, li74, li99, li100, li119, li126, li250, li296, li297, li298, li299, li300, li301, li302, li303, li606, li1515, li1818, li16384, li1048576, li2147483647, li10000, lj0, lj1, lj10000]
            · unfold fX6_point
              simp (disch := omega) only [e2, e3, e5, Mzz, Mzz2, Mtt, Mtz, Mtl, Mtx, Sum.elim_inl, Sum.elim_inr, bi_tr, bi_fa, gd_true, gd_dec, lt_def, bind_s, isb_0, isb_1, iZ_add, iZ_sub, iZ_mul, iZ_neg, lZ_add, lZ_sub, lZ_mul, iZ_lt, iZ_le, iZ_eq, lZ_lt, lZ_le, lZ_eq, iZ_64, iZ_N, inb_Z, if_pos, if_neg, ↓reduceIte, Bool.true_eq_false, Bool.false_eq_true, li0, li1, li2, li3, li4, li5, li6, li9, li10, li16, li20, li23, li24, li25, li31, li33, li44, li48, li49, li50, li51, li57, li59, li60, li63, li69, li70, li71, li72, li74, li99, li100, li119, li126, li250, li296, li297, li298, li299, li300, li301, li302, li303, li606, li1515, li1818, li16384, li1048576, li2147483647, li10000, lj0, lj1, lj10000]
              rw [e6]
              cases hb K i <;> rfl
          · by_cases w5 : w = 4
            · subst w5
              obtain ⟨c, f3, c1, c2⟩ := S.v1
              obtain ⟨wv, f4, d1, d2⟩ := S.v2
              have f5 := c_kind (K := K) hm hc hn.2 hi.1 hi.2 c2.1 c2.2 (w := wv) (by omega) (by omega)
              have e5 := r_fixedBy Rm1 hc c1 d1 hi.1 hi.2 c2.1 c2.2 (by omega) (by omega)
              refine ⟨.inr (iZ (kdD N n c wv i)), iZ (kdD N n c wv i), M_s_thrown m (iZ 0), ?_, ?_, Gst.r rfl (fun _ => WB.mk G)⟩
              · unfold fX5_point
                simp (disch := omega) only [f1, hst, f2, f3, f4, f5, Mzz, Mzz2, Mtt, Mtz, Mtl, Mtx, Sum.elim_inl, Sum.elim_inr, bi_tr, bi_fa, gd_true, gd_dec, lt_def, bind_s, isb_0, isb_1, iZ_add, iZ_sub, iZ_mul, iZ_neg, lZ_add, lZ_sub, lZ_mul, iZ_lt, iZ_le, iZ_eq, lZ_lt, lZ_le, lZ_eq, iZ_64, iZ_N, inb_Z, if_pos, if_neg, ↓reduceIte, Bool.true_eq_false, Bool.false_eq_true, li0, li1, li2, li3, li4, li5, li6, li9, li10, li16, li20, li23, li24, li25, li31, li33, li44, li48, li49, li50, li51, li57, li59, li60, li63, li69, li70, li71, li72, li74, li99, li100, li119, li126, li250, li296, li297, li298, li299, li300, li301, li302, li303, li606, li1515, li1818, li16384, li1048576, li2147483647, li10000, lj0, lj1, lj10000]
              · unfold fX6_point
                simp (disch := omega) only [e2, e3, e5, Mzz, Mzz2, Mtt, Mtz, Mtl, Mtx, Sum.elim_inl, Sum.elim_inr, bi_tr, bi_fa, gd_true, gd_dec, lt_def, bind_s, isb_0, isb_1, iZ_add, iZ_sub, iZ_mul, iZ_neg, lZ_add, lZ_sub, lZ_mul, iZ_lt, iZ_le, iZ_eq, lZ_lt, lZ_le, lZ_eq, iZ_64, iZ_N, inb_Z, if_pos, if_neg, ↓reduceIte, Bool.true_eq_false, Bool.false_eq_true, li0, li1, li2, li3, li4, li5, li6, li9, li10, li16, li20, li23, li24, li25, li31, li33, li44, li48, li49, li50, li51, li57, li59, li60, li63, li69, li70, li71, li72, li74, li99, li100, li119, li126, li250, li296, li297, li298, li299, li300, li301, li302, li303, li606, li1515, li1818, li16384, li1048576, li2147483647, li10000, lj0, lj1, lj10000]
            · have : w = 5 := by omega
              subst this
              have f5 := c_stray hm hc M hi.1 hi.2
              obtain ⟨qq, e5⟩ := r_stray Rm1 hc M hi.1 hi.2
              refine ⟨.inr (iZ (strD N K i)), iZ (strD N K i), ab (M_s_thrown m (iZ 0)) qq, ?_, ?_, Gst.r rfl (fun _ => WB.mk (GR.sm (G.th (iZ 0)) (sameM.ab _ _)))⟩
              · unfold fX5_point
                simp (disch := omega) only [f1, hst, f2, f5, Mzz, Mzz2, Mtt, Mtz, Mtl, Mtx, Sum.elim_inl, Sum.elim_inr, bi_tr, bi_fa, gd_true, gd_dec, lt_def, bind_s, isb_0, isb_1, iZ_add, iZ_sub, iZ_mul, iZ_neg, lZ_add, lZ_sub, lZ_mul, iZ_lt, iZ_le, iZ_eq, lZ_lt, lZ_le, lZ_eq, iZ_64, iZ_N, inb_Z, if_pos, if_neg, ↓reduceIte, Bool.true_eq_false, Bool.false_eq_true, li0, li1, li2, li3, li4, li5, li6, li9, li10, li16, li20, li23, li24, li25, li31, li33, li44, li48, li49, li50, li51, li57, li59, li60, li63, li69, li70, li71, li72, li74, li99, li100, li119, li126, li250, li296, li297, li298, li299, li300, li301, li302, li303, li606, li1515, li1818, li16384, li1048576, li2147483647, li10000, lj0, lj1, lj10000]
              · unfold fX6_point
                simp (disch := omega) only [e2, e3, e5, Mzz, Mzz2, Mtt, Mtz, Mtl, Mtx, Sum.elim_inl, Sum.elim_inr, bi_tr, bi_fa, gd_true, gd_dec, lt_def, bind_s, isb_0, isb_1, iZ_add, iZ_sub, iZ_mul, iZ_neg, lZ_add, lZ_sub, lZ_mul, iZ_lt, iZ_le, iZ_eq, lZ_lt, lZ_le, lZ_eq, iZ_64, iZ_N, inb_Z, if_pos, if_neg, ↓reduceIte, Bool.true_eq_false, Bool.false_eq_true, li0, li1, li2, li3, li4, li5, li6, li9, li10, li16, li20, li23, li24, li25, li31, li33, li44, li48, li49, li50, li51, li57, li59, li60, li63, li69, li70, li71, li72, li74, li99, li100, li119, li126, li250, li296, li297, li298, li299, li300, li301, li302, li303, li606, li1515, li1818, li16384, li1048576, li2147483647, li10000, lj0, lj1, lj10000]
      · have e3 := inN W (lo := 0) (hi := 5) (by omega) (by omega) hw
        obtain ⟨W0, W1⟩ := W
        refine ⟨.inl 1, iZ 0, M_s_thrown m (iZ 2), ?_, ?_, Gst.l 1 rfl rfl (fun _ => WB.mk G)⟩
        · unfold fX5_point
          simp (disch := omega) only [f1, hst, f2, Mzz, Mzz2, Mtt, Mtz, Mtl, Mtx, Sum.elim_inl, Sum.elim_inr, bi_tr, bi_fa, gd_true, gd_dec, lt_def, bind_s, isb_0, isb_1, iZ_add, iZ_sub, iZ_mul, iZ_neg, lZ_add, lZ_sub, lZ_mul, iZ_lt, iZ_le, iZ_eq, lZ_lt, lZ_le, lZ_eq, iZ_64, iZ_N, inb_Z, if_pos, if_neg, ↓reduceIte, Bool.true_eq_false, Bool.false_eq_true, li0, li1, li2, li3, li4, li5, li6, li9, li10, li16, li20, li23, li24, li25, li31, li33, li44, li48, li49, li50, li51, li57, li59, li60, li63, li69, li70, li71, li72, li74, li99, li100, li119, li126, li250, li296, li297, li298, li299, li300, li301, li302, li303, li606, li1515, li1818, li16384, li1048576, li2147483647, li10000, lj0, lj1, lj10000]
        · unfold fX6_point
          simp (disch := omega) only [e2, e3, Mzz, Mzz2, Mtt, Mtz, Mtl, Mtx, Sum.elim_inl, Sum.elim_inr, bi_tr, bi_fa, gd_true, gd_dec, lt_def, bind_s, isb_0, isb_1, iZ_add, iZ_sub, iZ_mul, iZ_neg, lZ_add, lZ_sub, lZ_mul, iZ_lt, iZ_le, iZ_eq, lZ_lt, lZ_le, lZ_eq, iZ_64, iZ_N, inb_Z, if_pos, if_neg, ↓reduceIte, Bool.true_eq_false, Bool.false_eq_true, li0, li1, li2, li3, li4, li5, li6, li9, li10, li16, li20, li23, li24, li25, li31, li33, li44, li48, li49, li50, li51, li57, li59, li60, li63, li69, li70, li71, li72, li74, li99, li100, li119, li126, li250, li296, li297, li298, li299, li300, li301, li302, li303, li606, li1515, li1818, li16384, li1048576, li2147483647, li10000, lj0, lj1, lj10000]
    · have f2 := ptN (q := q) (K := K) I (by omega) hi
      have e2 := ipN A I S ha Rm hi
      refine ⟨.inl 0, iZ 0, M_s_thrown m (iZ 1), ?_, ?_, Gst.l 0 rfl rfl (fun _ => WB.mk G)⟩
      · unfold fX5_point
        simp (disch := omega) only [f1, hst, f2, Mzz, Mzz2, Mtt, Mtz, Mtl, Mtx, Sum.elim_inl, Sum.elim_inr, bi_tr, bi_fa, gd_true, gd_dec, lt_def, bind_s, isb_0, isb_1, iZ_add, iZ_sub, iZ_mul, iZ_neg, lZ_add, lZ_sub, lZ_mul, iZ_lt, iZ_le, iZ_eq, lZ_lt, lZ_le, lZ_eq, iZ_64, iZ_N, inb_Z, if_pos, if_neg, ↓reduceIte, Bool.true_eq_false, Bool.false_eq_true, li0, li1, li2, li3, li4, li5, li6, li9, li10, li16, li20, li23, li24, li25, li31, li33, li44, li48, li49, li50, li51, li57, li59, li60, li63, li69, li70, li71, li72, li74, li99, li100, li119, li126, li250, li296, li297, li298, li299, li300, li301, li302, li303, li606, li1515, li1818, li16384, li1048576, li2147483647, li10000, lj0, lj1, lj10000]
      · unfold fX6_point
        simp (disch := omega) only [e2, Mzz, Mzz2, Mtt, Mtz, Mtl, Mtx, Sum.elim_inl, Sum.elim_inr, bi_tr, bi_fa, gd_true, gd_dec, lt_def, bind_s, isb_0, isb_1, iZ_add, iZ_sub, iZ_mul, iZ_neg, lZ_add, lZ_sub, lZ_mul, iZ_lt, iZ_le, iZ_eq, lZ_lt, lZ_le, lZ_eq, iZ_64, iZ_N, inb_Z, if_pos, if_neg, ↓reduceIte, Bool.true_eq_false, Bool.false_eq_true, li0, li1, li2, li3, li4, li5, li6, li9, li10, li16, li20, li23, li24, li25, li31, li33, li44, li48, li49, li50, li51, li57, li59, li60, li63, li69, li70, li71, li72, li74, li99, li100, li119, li126, li250, li296, li297, li298, li299, li300, li301, li302, li303, li606, li1515, li1818, li16384, li1048576, li2147483647, li10000, lj0, lj1, lj10000]
  · have f1 := exN A S ha
    have e2 := ipS (i := i) A S ha
    refine ⟨.inl 0, iZ 0, M_s_thrown m (iZ 1), ?_, ?_, Gst.l 0 rfl rfl (fun _ => WB.mk G)⟩
    · unfold fX5_point
      simp (disch := omega) only [f1, Mzz, Mzz2, Mtt, Mtz, Mtl, Mtx, Sum.elim_inl, Sum.elim_inr, bi_tr, bi_fa, gd_true, gd_dec, lt_def, bind_s, isb_0, isb_1, iZ_add, iZ_sub, iZ_mul, iZ_neg, lZ_add, lZ_sub, lZ_mul, iZ_lt, iZ_le, iZ_eq, lZ_lt, lZ_le, lZ_eq, iZ_64, iZ_N, inb_Z, if_pos, if_neg, ↓reduceIte, Bool.true_eq_false, Bool.false_eq_true, li0, li1, li2, li3, li4, li5, li6, li9, li10, li16, li20, li23, li24, li25, li31, li33, li44, li48, li49, li50, li51, li57, li59, li60, li63, li69, li70, li71, li72, li74, li99, li100, li119, li126, li250, li296, li297, li298, li299, li300, li301, li302, li303, li606, li1515, li1818, li16384, li1048576, li2147483647, li10000, lj0, lj1, lj10000]
    · unfold fX6_point
      simp (disch := omega) only [e2, Mzz, Mzz2, Mtt, Mtz, Mtl, Mtx, Sum.elim_inl, Sum.elim_inr, bi_tr, bi_fa, gd_true, gd_dec, lt_def, bind_s, isb_0, isb_1, iZ_add, iZ_sub, iZ_mul, iZ_neg, lZ_add, lZ_sub, lZ_mul, iZ_lt, iZ_le, iZ_eq, lZ_lt, lZ_le, lZ_eq, iZ_64, iZ_N, inb_Z, if_pos, if_neg, ↓reduceIte, Bool.true_eq_false, Bool.false_eq_true, li0, li1, li2, li3, li4, li5, li6, li9, li10, li16, li20, li23, li24, li25, li31, li33, li44, li48, li49, li50, li51, li57, li59, li60, li63, li69, li70, li71, li72, li74, li99, li100, li119, li126, li250, li296, li297, li298, li299, li300, li301, li302, li303, li606, li1515, li1818, li16384, li1048576, li2147483647, li10000, lj0, lj1, lj10000]
end Q
end
