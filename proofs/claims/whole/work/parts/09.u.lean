section
/-! the whole: strokes change (2) -/
section Q
variable {g : kG} {D : Nat → Nat → Nat} {R : kAd} {u : ShS} {ts : TS} {bs : SS} {ps : PS} {hs : HS} {ns : NS} {m : MS}
theorem g_change (G : GR u ts hs ns m) (p1 p2 p3 p4 p5 : Int32) : ∃ (o : (Nat × ShS × HS) ⊕ (Int32 × ShS × HS)) (b : Int32) (m' : MS), fX5_change p1 p2 p3 p4 p5 u hs = some o ∧ fX6_change p1 p2 p3 p4 p5 m = some (b, m') ∧ Gst g [0, 1] D (obX5_change g D R u ts bs ps hs ns o) b m' := by
  obtain ⟨a, rfl, A⟩ := iZ_B p1
  obtain ⟨i, rfl, I⟩ := iZ_B p2
  obtain ⟨x, rfl, X⟩ := iZ_B p3
  obtain ⟨y, rfl, Y⟩ := iZ_B p4
  obtain ⟨w, rfl, W⟩ := iZ_B p5
  obtain ⟨⟨sc, S⟩, -⟩ := id G
  have hsc := S.1
  have hz : M_z m (296 : Int).toNat = iZ sc := S.2.2.1
  by_cases ha : 0 ≤ a ∧ a < sc
  · obtain ⟨n, N, K, q, hst, hm, M, hc, Rm⟩ := S.rms ha.1 ha.2
    have hn := M.1
    have hi5 : a.toNat < 5 := by omega
    have f1 := exY A S ha
    by_cases hi : 0 ≤ i ∧ i < n
    · have f2 := ptY (q := q) (K := K) I (by omega) hi
      have e2 := ipY A I S ha Rm hi
      by_cases hx : inP x y
      · have f3 := plcY X Y hx
        by_cases hw : 1 ≤ w ∧ w ≤ 20
        · have f4 := widY W hw
          have e4 := nbrY X Y W hx hw
          obtain ⟨hs', m2, s1, s2, s3, s4, -, -, -, s5⟩ := g_rec2 (G.th (iZ 0))
          have s3 : M_z m2 = M_z m := s3
          have R2 : RMs m2 a n N K := ⟨Rm.1, by rw [s3]; exact Rm.2⟩
          have h4 : 0 ≤ a ∧ a < 4 := by omega
          have f5 := c_x (s := iZ n) (K := K) hm hn.2 hi.1 hi.2
          have f6 := c_y (s := iZ n) (K := K) hm hn.2 hi.1 hi.2
          have f7 := c_putP (m := q) (s := iZ n) (K := K) (k := i) (x := x) (y := y) (w := w) hi.1 (by omega)
          have f8 := c_keepAll (m := mup q (3 * i) x y w) (n := n) (K := K)
          have e5 := r_x R2 hi.1 hi.2
          have e6 := r_y R2 hi.1 hi.2
          have e5 : fX6_of (iZ a) (iZ i) (iZ 0) m2 = some (iZ (N (3 * i))) := e5
          have e6 : fX6_of (iZ a) (iZ i) (iZ 1) m2 = some (iZ (N (3 * i + 1))) := e6
          have e7 := r_put (u := m2) (s := a) h4 (k := i) (x := x) (y := y) (w := w) hi.1 (by omega)
          obtain ⟨z0, z1, zN⟩ := R2.2
          have e8 := r_keepAll (u := M_s_z m2 (mup (M_z m2) (74 * a + 2 + 3 * i) x y w)) (s := a) (n := n) h4 (by
            show mup _ _ _ _ _ _ = _
            rw [mup_o (by omega) (by omega) (by omega)]
            exact z0)
          have PZ : PtsZ (M_z m2) a n N := zN
          have P2 := PZ.set ha.1 hi.1 x y w
          have so : SameOut (M_z m) (upd (mup (M_z m2) (74 * a + 2 + 3 * i) x y w) (74 * a + 1).toNat (allK n)) a := by
            rw [← s3]
            exact (SameOut.mup (by omega) (by omega) ha.1).tr (SameOut.up _ (by omega) (by omega) ha.1)
          have SX := S.set ha.1 ha.2 so ⟨n, setN N i x y w, allK n, mup q (3 * i) x y w, rfl, hm.set hi.1 x y w, MK_all hn, hc.set hx.1 hx.2 hw, by rw [upd_n (by omega), mup_o (by omega) (by omega) (by omega)]; exact z0, upd_s, fun j j0 j1 => by rw [upd_n (by omega)]; exact P2 j j0 j1⟩
          refine ⟨.inr (iZ (100 * N (3 * i) + N (3 * i + 1)), Sh_s_st u a.toNat (mup q (3 * i) x y w, iZ n, allK n), hs'), iZ (100 * N (3 * i) + N (3 * i + 1)), M_s_z m2 (upd (mup (M_z m2) (74 * a + 2 + 3 * i) x y w) (74 * a + 1).toNat (allK n)), ?_, ?_, Gst.r (show M_thrown m2 = iZ 0 from s4) (fun _ => WB.mk (s5 _ _ _ SX))⟩
          · unfold fX5_change
            simp (disch := omega) only [f1, hst, f2, f3, f4, s1, f5, f6, f7, f8, Mzz, Mzz2, Mtt, Mtz, Mtl, Mtx, Sum.elim_inl, Sum.elim_inr, bi_tr, bi_fa, Sh_same, Sh_ss, gd_true, gd_dec, lt_def, bind_s, isb_0, isb_1, iZ_add, iZ_sub, iZ_mul, iZ_neg, lZ_add, lZ_sub, lZ_mul, iZ_lt, iZ_le, iZ_eq, lZ_lt, lZ_le, lZ_eq, iZ_64, iZ_N, inb_Z, if_pos, if_neg, ↓reduceIte, Bool.true_eq_false, Bool.false_eq_true, li0, li1, li2, li3, li4, li5, li6, li9, li10, li16, li20, li23, li24, li25, li31, li33, li44, li48, li49, li50, li51, li57, li59, li60, li63, li69, li70, li71, li72, li74, li99, li100, li119, li126, li250, li296, li297, li298, li299, li300, li301, li302, li303, li606, li1515, li1818, li16384, li1048576, li2147483647, li10000, lj0, lj1, lj10000]
          · unfold fX6_change
            simp (disch := omega) only [e2, e4, s2, e5, e6, e7, e8, Mzz, Mzz2, Mtt, Mtz, Mtl, Mtx, Sum.elim_inl, Sum.elim_inr, bi_tr, bi_fa, Sh_same, Sh_ss, gd_true, gd_dec, lt_def, bind_s, isb_0, isb_1, iZ_add, iZ_sub, iZ_mul, iZ_neg, lZ_add, lZ_sub, lZ_mul, iZ_lt, iZ_le, iZ_eq, lZ_lt, lZ_le, lZ_eq, iZ_64, iZ_N, inb_Z, if_pos, if_neg, ↓reduceIte, Bool.true_eq_false, Bool.false_eq_true, li0, li1, li2, li3, li4, li5, li6, li9, li10, li16, li20, li23, li24, li25, li31, li33, li44, li48, li49, li50, li51, li57, li59, li60, li63, li69, li70, li71, li72, li74, li99, li100, li119, li126, li250, li296, li297, li298, li299, li300, li301, li302, li303, li606, li1515, li1818, li16384, li1048576, li2147483647, li10000, lj0, lj1, lj10000]
        · have f4 := widN W hw
          have e4 := nbrN X Y W (fun q => hw q.2)
          refine ⟨.inl (1, u, hs), iZ 0, M_s_thrown m (iZ 2), ?_, ?_, Gst.l 1 rfl rfl (fun _ => WB.mk G)⟩
          · unfold fX5_change
            simp (disch := omega) only [f1, hst, f2, f3, f4, Mzz, Mzz2, Mtt, Mtz, Mtl, Mtx, Sum.elim_inl, Sum.elim_inr, bi_tr, bi_fa, Sh_same, Sh_ss, gd_true, gd_dec, lt_def, bind_s, isb_0, isb_1, iZ_add, iZ_sub, iZ_mul, iZ_neg, lZ_add, lZ_sub, lZ_mul, iZ_lt, iZ_le, iZ_eq, lZ_lt, lZ_le, lZ_eq, iZ_64, iZ_N, inb_Z, if_pos, if_neg, ↓reduceIte, Bool.true_eq_false, Bool.false_eq_true, li0, li1, li2, li3, li4, li5, li6, li9, li10, li16, li20, li23, li24, li25, li31, li33, li44, li48, li49, li50, li51, li57, li59, li60, li63, li69, li70, li71, li72, li74, li99, li100, li119, li126, li250, li296, li297, li298, li299, li300, li301, li302, li303, li606, li1515, li1818, li16384, li1048576, li2147483647, li10000, lj0, lj1, lj10000]
          · unfold fX6_change
            simp (disch := omega) only [e2, e4, Mzz, Mzz2, Mtt, Mtz, Mtl, Mtx, Sum.elim_inl, Sum.elim_inr, bi_tr, bi_fa, Sh_same, Sh_ss, gd_true, gd_dec, lt_def, bind_s, isb_0, isb_1, iZ_add, iZ_sub, iZ_mul, iZ_neg, lZ_add, lZ_sub, lZ_mul, iZ_lt, iZ_le, iZ_eq, lZ_lt, lZ_le, lZ_eq, iZ_64, iZ_N, inb_Z, if_pos, if_neg, ↓reduceIte, Bool.true_eq_false, Bool.false_eq_true, li0, li1, li2, li3, li4, li5, li6, li9, li10, li16, li20, li23, li24, li25, li31, li33, li44, li48, li49, li50, li51, li57, li59, li60, li63, li69, li70, li71, li72, li74, li99, li100, li119, li126, li250, li296, li297, li298, li299, li300, li301, li302, li303, li606, li1515, li1818, li16384, li1048576, li2147483647, li10000, lj0, lj1, lj10000]
      · have f3 := plcN X Y hx
        have e4 := nbrN X Y W (fun q => hx q.1)
        refine ⟨.inl (1, u, hs), iZ 0, M_s_thrown m (iZ 2), ?_, ?_, Gst.l 1 rfl rfl (fun _ => WB.mk G)⟩
        · unfold fX5_change
          simp (disch := omega) only [f1, hst, f2, f3, Mzz, Mzz2, Mtt, Mtz, Mtl, Mtx, Sum.elim_inl, Sum.elim_inr, bi_tr, bi_fa, Sh_same, Sh_ss, gd_true, gd_dec, lt_def, bind_s, isb_0, isb_1, iZ_add, iZ_sub, iZ_mul, iZ_neg, lZ_add, lZ_sub, lZ_mul, iZ_lt, iZ_le, iZ_eq, lZ_lt, lZ_le, lZ_eq, iZ_64, iZ_N, inb_Z, if_pos, if_neg, ↓reduceIte, Bool.true_eq_false, Bool.false_eq_true, li0, li1, li2, li3, li4, li5, li6, li9, li10, li16, li20, li23, li24, li25, li31, li33, li44, li48, li49, li50, li51, li57, li59, li60, li63, li69, li70, li71, li72, li74, li99, li100, li119, li126, li250, li296, li297, li298, li299, li300, li301, li302, li303, li606, li1515, li1818, li16384, li1048576, li2147483647, li10000, lj0, lj1, lj10000]
        · unfold fX6_change
          simp (disch := omega) only [e2, e4, Mzz, Mzz2, Mtt, Mtz, Mtl, Mtx, Sum.elim_inl, Sum.elim_inr, bi_tr, bi_fa, Sh_same, Sh_ss, gd_true, gd_dec, lt_def, bind_s, isb_0, isb_1, iZ_add, iZ_sub, iZ_mul, iZ_neg, lZ_add, lZ_sub, lZ_mul, iZ_lt, iZ_le, iZ_eq, lZ_lt, lZ_le, lZ_eq, iZ_64, iZ_N, inb_Z, if_pos, if_neg, ↓reduceIte, Bool.true_eq_false, Bool.false_eq_true, li0, li1, li2, li3, li4, li5, li6, li9, li10, li16, li20, li23, li24, li25, li31, li33, li44, li48, li49, li50, li51, li57, li59, li60, li63, li69, li70, li71, li72, li74, li99, li100, li119, li126, li250, li296, li297, li298, li299, li300, li301, li302, li303, li606, li1515, li1818, li16384, li1048576, li2147483647, li10000, lj0, lj1, lj10000]
    · have f2 := ptN (q := q) (K := K) I (by omega) hi
      have e2 := ipN A I S ha Rm hi
      refine ⟨.inl (0, u, hs), iZ 0, M_s_thrown m (iZ 1), ?_, ?_, Gst.l 0 rfl rfl (fun _ => WB.mk G)⟩
      · unfold fX5_change
        simp (disch := omega) only [f1, hst, f2, Mzz, Mzz2, Mtt, Mtz, Mtl, Mtx, Sum.elim_inl, Sum.elim_inr, bi_tr, bi_fa, Sh_same, Sh_ss, gd_true, gd_dec, lt_def, bind_s, isb_0, isb_1, iZ_add, iZ_sub, iZ_mul, iZ_neg, lZ_add, lZ_sub, lZ_mul, iZ_lt, iZ_le, iZ_eq, lZ_lt, lZ_le, lZ_eq, iZ_64, iZ_N, inb_Z, if_pos, if_neg, ↓reduceIte, Bool.true_eq_false, Bool.false_eq_true, li0, li1, li2, li3, li4, li5, li6, li9, li10, li16, li20, li23, li24, li25, li31, li33, li44, li48, li49, li50, li51, li57, li59, li60, li63, li69, li70, li71, li72, li74, li99, li100, li119, li126, li250, li296, li297, li298, li299, li300, li301, li302, li303, li606, li1515, li1818, li16384, li1048576, li2147483647, li10000, lj0, lj1, lj10000]
      · unfold fX6_change
        simp (disch := omega) only [e2, Mzz, Mzz2, Mtt, Mtz, Mtl, Mtx, Sum.elim_inl, Sum.elim_inr, bi_tr, bi_fa, Sh_same, Sh_ss, gd_true, gd_dec, lt_def, bind_s, isb_0, isb_1, iZ_add, iZ_sub, iZ_mul, iZ_neg, lZ_add, lZ_sub, lZ_mul, iZ_lt, iZ_le, iZ_eq, lZ_lt, lZ_le, lZ_eq, iZ_64, iZ_N, inb_Z, if_pos, if_neg, ↓reduceIte, Bool.true_eq_false, Bool.false_eq_true, li0, li1, li2, li3, li4, li5, li6, li9, li10, li16, li20, li23, li24, li25, li31, li33, li44, li48, li49, li50, li51, li57, li59, li60, li63, li69, li70, li71, li72, li74, li99, li100, li119, li126, li250, li296, li297, li298, li299, li300, li301, li302, li303, li606, li1515, li1818, li16384, li1048576, li2147483647, li10000, lj0, lj1, lj10000]
  · have f1 := exN A S ha
    have e2 := ipS (i := i) A S ha
    refine ⟨.inl (0, u, hs), iZ 0, M_s_thrown m (iZ 1), ?_, ?_, Gst.l 0 rfl rfl (fun _ => WB.mk G)⟩
    · unfold fX5_change
      simp (disch := omega) only [f1, Mzz, Mzz2, Mtt, Mtz, Mtl, Mtx, Sum.elim_inl, Sum.elim_inr, bi_tr, bi_fa, Sh_same, Sh_ss, gd_true, gd_dec, lt_def, bind_s, isb_0, isb_1, iZ_add, iZ_sub, iZ_mul, iZ_neg, lZ_add, lZ_sub, lZ_mul, iZ_lt, iZ_le, iZ_eq, lZ_lt, lZ_le, lZ_eq, iZ_64, iZ_N, inb_Z, if_pos, if_neg, ↓reduceIte, Bool.true_eq_false, Bool.false_eq_true, li0, li1, li2, li3, li4, li5, li6, li9, li10, li16, li20, li23, li24, li25, li31, li33, li44, li48, li49, li50, li51, li57, li59, li60, li63, li69, li70, li71, li72, li74, li99, li100, li119, li126, li250, li296, li297, li298, li299, li300, li301, li302, li303, li606, li1515, li1818, li16384, li1048576, li2147483647, li10000, lj0, lj1, lj10000]
    · unfold fX6_change
      simp (disch := omega) only [e2, Mzz, Mzz2, Mtt, Mtz, Mtl, Mtx, Sum.elim_inl, Sum.elim_inr, bi_tr, bi_fa, Sh_same, Sh_ss, gd_true, gd_dec, lt_def, bind_s, isb_0, isb_1, iZ_add, iZ_sub, iZ_mul, iZ_neg, lZ_add, lZ_sub, lZ_mul, iZ_lt, iZ_le, iZ_eq, lZ_lt, lZ_le, lZ_eq, iZ_64, iZ_N, inb_Z, if_pos, if_neg, ↓reduceIte, Bool.true_eq_false, Bool.false_eq_true, li0, li1, li2, li3, li4, li5, li6, li9, li10, li16, li20, li23, li24, li25, li31, li33, li44, li48, li49, li50, li51, li57, li59, li60, li63, li69, li70, li71, li72, li74, li99, li100, li119, li126, li250, li296, li297, li298, li299, li300, li301, li302, li303, li606, li1515, li1818, li16384, li1048576, li2147483647, li10000, lj0, lj1, lj10000]
theorem g_insert (G : GR u ts hs ns m) (p1 p2 p3 p4 p5 : Int32) : ∃ (o : (Nat × ShS × HS) ⊕ (Int32 × ShS × HS)) (b : Int32) (m' : MS), fX5_insert p1 p2 p3 p4 p5 u hs = some o ∧ fX6_insert p1 p2 p3 p4 p5 m = some (b, m') ∧ Gst g [0, 1, 2] D (obX5_insert g D R u ts bs ps hs ns o) b m' := by
  obtain ⟨a, rfl, A⟩ := iZ_B p1
  obtain ⟨i, rfl, I⟩ := iZ_B p2
  obtain ⟨x, rfl, X⟩ := iZ_B p3
  obtain ⟨y, rfl, Y⟩ := iZ_B p4
  obtain ⟨w, rfl, W⟩ := iZ_B p5
  obtain ⟨⟨sc, S⟩, -⟩ := id G
  have hsc := S.1
  have hz : M_z m (296 : Int).toNat = iZ sc := S.2.2.1
  by_cases ha : 0 ≤ a ∧ a < sc
  · obtain ⟨n, N, K, q, hst, hm, M, hc, Rm⟩ := S.rms ha.1 ha.2
    have hn := M.1
    have hi5 : a.toNat < 5 := by omega
    have f1 := exY A S ha
    have e1 := isY A S ha
    have ep := r_pts Rm
    have fs : fX3_size (q, iZ n, K) = some (iZ n) := rfl
    obtain ⟨I0, I1⟩ := id I
    by_cases hi : 0 ≤ i ∧ i ≤ n
    · have e2 := inY I (lo := 0) (hi := n) (by omega) (by omega) hi
      by_cases hx : inP x y
      · have f3 := plcY X Y hx
        by_cases hw : 1 ≤ w ∧ w ≤ 20
        · have f4 := widY W hw
          have e4 := nbrY X Y W hx hw
          by_cases h24 : n < 24
          · obtain ⟨hs', m2, s1, s2, s3, s4, -, -, -, s5⟩ := g_rec2 (G.th (iZ 0))
            have s3 : M_z m2 = M_z m := s3
            have R2 : RMs m2 a n N K := ⟨Rm.1, by rw [s3]; exact Rm.2⟩
            have h4 : 0 ≤ a ∧ a < 4 := by omega
            obtain ⟨q', f5, hm'⟩ := c_insert (K := K) hm ⟨by omega, h24⟩ hi.1 hi.2 (x := x) (y := y) (w := w)
            obtain ⟨z, e5, so1, z0, z1, g1, g2⟩ := r_insL R2 h24 hi.1 hi.2
            have ep2 := r_pts R2
            have e6 := r_put (u := M_s_z m2 z) (s := a) h4 (k := i) (x := x) (y := y) (w := w) hi.1 (by omega)
            have z0' : mup z (74 * a + 2 + 3 * i) x y w (74 * a).toNat = iZ n := by
              rw [mup_o (by omega) (by omega) (by omega)]
              exact z0
            have e7 := r_keepAll (u := M_s_z m2 (upd (mup z (74 * a + 2 + 3 * i) x y w) (74 * a).toNat (iZ (n + 1)))) (s := a) (n := n + 1) h4 upd_s
            have e8 : fX6_points (iZ a) (M_s_z m2 (upd (upd (mup z (74 * a + 2 + 3 * i) x y w) (74 * a).toNat (iZ (n + 1))) (74 * a + 1).toNat (allK (n + 1)))) = some (iZ (n + 1)) := by
              have t0 : upd (upd (mup z (74 * a + 2 + 3 * i) x y w) (74 * a).toNat (iZ (n + 1))) (74 * a + 1).toNat (allK (n + 1)) (74 * a).toNat = iZ (n + 1) := by
                rw [upd_n (by omega)]
                exact upd_s
              unfold fX6_points
              simp (disch := omega) only [t0, Mzz, Mzz2, Mtt, Mtz, Mtl, Mtx, Sum.elim_inl, Sum.elim_inr, bi_tr, bi_fa, Sh_same, Sh_ss, gd_true, gd_dec, lt_def, bind_s, isb_0, isb_1, iZ_add, iZ_sub, iZ_mul, iZ_neg, lZ_add, lZ_sub, lZ_mul, iZ_lt, iZ_le, iZ_eq, lZ_lt, lZ_le, lZ_eq, iZ_64, iZ_N, inb_Z, if_pos, if_neg, ↓reduceIte, Bool.true_eq_false, Bool.false_eq_true, li0, li1, li2, li3, li4, li5, li6, li9, li10, li16, li20, li23, li24, li25, li31, li33, li44, li48, li49, li50, li51, li57, li59, li60, li63, li69, li70, li71, li72, li74, li99, li100, li119, li126, li250, li296, li297, li298, li299, li300, li301, li302, li303, li606, li1515, li1818, li16384, li1048576, li2147483647, li10000, lj0, lj1, lj10000]
            have so : SameOut (M_z m) (upd (upd (mup z (74 * a + 2 + 3 * i) x y w) (74 * a).toNat (iZ (n + 1))) (74 * a + 1).toNat (allK (n + 1))) a := by
              rw [← s3]
              exact ((so1.tr (SameOut.mup (by omega) (by omega) ha.1)).tr (SameOut.up _ (by omega) (by omega) ha.1)).tr (SameOut.up _ (by omega) (by omega) ha.1)
            have SX := S.set ha.1 ha.2 so ⟨n + 1, insN N i x y w, allK (n + 1), q', rfl, hm', MK_all (by omega), hc.ins hi.1 hi.2 hx.1 hx.2 hw, by rw [upd_n (by omega)]; exact upd_s, upd_s, fun j j0 j1 => by
              rw [upd_n (by omega), upd_n (by omega), mup_at (by omega) (by omega)]
              unfold insN
              by_cases c0 : j < 3 * i
              · rw [if_neg (by omega), if_neg (by omega), if_neg (by omega), if_pos c0]
                exact g1 j j0 c0
              · rw [if_neg c0]
                by_cases c1 : j = 3 * i
                · rw [if_pos (by omega), if_pos c1]
                · by_cases c2 : j = 3 * i + 1
                  · rw [if_neg (by omega), if_neg c1, if_pos (by omega), if_pos c2]
                  · by_cases c3 : j = 3 * i + 2
                    · rw [if_neg (by omega), if_neg c1, if_neg (by omega), if_neg c2, if_pos (by omega), if_pos c3]
                    · rw [if_neg (by omega), if_neg c1, if_neg (by omega), if_neg c2, if_neg (by omega), if_neg c3]
                      exact g2 j (by omega) (by omega)⟩
            refine ⟨.inr (iZ (n + 1), Sh_s_st u a.toNat (q', iZ (n + 1), allK (n + 1)), hs'), iZ (n + 1), M_s_z m2 (upd (upd (mup z (74 * a + 2 + 3 * i) x y w) (74 * a).toNat (iZ (n + 1))) (74 * a + 1).toNat (allK (n + 1))), ?_, ?_, Gst.r (show M_thrown m2 = iZ 0 from s4) (fun _ => WB.mk (s5 _ _ _ SX))⟩
            · unfold fX5_insert
              simp (disch := omega) only [f1, hst, fs, f3, f4, s1, f5, fX3_size, S_size, Mzz, Mzz2, Mtt, Mtz, Mtl, Mtx, Sum.elim_inl, Sum.elim_inr, bi_tr, bi_fa, Sh_same, Sh_ss, gd_true, gd_dec, lt_def, bind_s, isb_0, isb_1, iZ_add, iZ_sub, iZ_mul, iZ_neg, lZ_add, lZ_sub, lZ_mul, iZ_lt, iZ_le, iZ_eq, lZ_lt, lZ_le, lZ_eq, iZ_64, iZ_N, inb_Z, if_pos, if_neg, ↓reduceIte, Bool.true_eq_false, Bool.false_eq_true, li0, li1, li2, li3, li4, li5, li6, li9, li10, li16, li20, li23, li24, li25, li31, li33, li44, li48, li49, li50, li51, li57, li59, li60, li63, li69, li70, li71, li72, li74, li99, li100, li119, li126, li250, li296, li297, li298, li299, li300, li301, li302, li303, li606, li1515, li1818, li16384, li1048576, li2147483647, li10000, lj0, lj1, lj10000]
            · unfold fX6_insert
              simp (disch := omega) only [e1, ep, e2, e4, s2, ep2, e5, e6, z0', e7, e8, Mzz, Mzz2, Mtt, Mtz, Mtl, Mtx, Sum.elim_inl, Sum.elim_inr, bi_tr, bi_fa, Sh_same, Sh_ss, gd_true, gd_dec, lt_def, bind_s, isb_0, isb_1, iZ_add, iZ_sub, iZ_mul, iZ_neg, lZ_add, lZ_sub, lZ_mul, iZ_lt, iZ_le, iZ_eq, lZ_lt, lZ_le, lZ_eq, iZ_64, iZ_N, inb_Z, if_pos, if_neg, ↓reduceIte, Bool.true_eq_false, Bool.false_eq_true, li0, li1, li2, li3, li4, li5, li6, li9, li10, li16, li20, li23, li24, li25, li31, li33, li44, li48, li49, li50, li51, li57, li59, li60, li63, li69, li70, li71, li72, li74, li99, li100, li119, li126, li250, li296, li297, li298, li299, li300, li301, li302, li303, li606, li1515, li1818, li16384, li1048576, li2147483647, li10000, lj0, lj1, lj10000]
          · have : n = 24 := by omega
            subst this
            refine ⟨.inl (2, u, hs), iZ 0, M_s_thrown m (iZ 3), ?_, ?_, Gst.l 2 rfl rfl (fun _ => WB.mk G)⟩
            · unfold fX5_insert
              simp (disch := omega) only [f1, hst, fs, f3, f4, Mzz, Mzz2, Mtt, Mtz, Mtl, Mtx, Sum.elim_inl, Sum.elim_inr, bi_tr, bi_fa, Sh_same, Sh_ss, gd_true, gd_dec, lt_def, bind_s, isb_0, isb_1, iZ_add, iZ_sub, iZ_mul, iZ_neg, lZ_add, lZ_sub, lZ_mul, iZ_lt, iZ_le, iZ_eq, lZ_lt, lZ_le, lZ_eq, iZ_64, iZ_N, inb_Z, if_pos, if_neg, ↓reduceIte, Bool.true_eq_false, Bool.false_eq_true, li0, li1, li2, li3, li4, li5, li6, li9, li10, li16, li20, li23, li24, li25, li31, li33, li44, li48, li49, li50, li51, li57, li59, li60, li63, li69, li70, li71, li72, li74, li99, li100, li119, li126, li250, li296, li297, li298, li299, li300, li301, li302, li303, li606, li1515, li1818, li16384, li1048576, li2147483647, li10000, lj0, lj1, lj10000]
            · unfold fX6_insert
              simp (disch := omega) only [e1, ep, e2, e4, Mzz, Mzz2, Mtt, Mtz, Mtl, Mtx, Sum.elim_inl, Sum.elim_inr, bi_tr, bi_fa, Sh_same, Sh_ss, gd_true, gd_dec, lt_def, bind_s, isb_0, isb_1, iZ_add, iZ_sub, iZ_mul, iZ_neg, lZ_add, lZ_sub, lZ_mul, iZ_lt, iZ_le, iZ_eq, lZ_lt, lZ_le, lZ_eq, iZ_64, iZ_N, inb_Z, if_pos, if_neg, ↓reduceIte, Bool.true_eq_false, Bool.false_eq_true, li0, li1, li2, li3, li4, li5, li6, li9, li10, li16, li20, li23, li24, li25, li31, li33, li44, li48, li49, li50, li51, li57, li59, li60, li63, li69, li70, li71, li72, li74, li99, li100, li119, li126, li250, li296, li297, li298, li299, li300, li301, li302, li303, li606, li1515, li1818, li16384, li1048576, li2147483647, li10000, lj0, lj1, lj10000]
        · have f4 := widN W hw
          have e4 := nbrN X Y W (fun q => hw q.2)
          refine ⟨.inl (1, u, hs), iZ 0, M_s_thrown m (iZ 2), ?_, ?_, Gst.l 1 rfl rfl (fun _ => WB.mk G)⟩
          · unfold fX5_insert
            simp (disch := omega) only [f1, hst, fs, f3, f4, Mzz, Mzz2, Mtt, Mtz, Mtl, Mtx, Sum.elim_inl, Sum.elim_inr, bi_tr, bi_fa, Sh_same, Sh_ss, gd_true, gd_dec, lt_def, bind_s, isb_0, isb_1, iZ_add, iZ_sub, iZ_mul, iZ_neg, lZ_add, lZ_sub, lZ_mul, iZ_lt, iZ_le, iZ_eq, lZ_lt, lZ_le, lZ_eq, iZ_64, iZ_N, inb_Z, if_pos, if_neg, ↓reduceIte, Bool.true_eq_false, Bool.false_eq_true, li0, li1, li2, li3, li4, li5, li6, li9, li10, li16, li20, li23, li24, li25, li31, li33, li44, li48, li49, li50, li51, li57, li59, li60, li63, li69, li70, li71, li72, li74, li99, li100, li119, li126, li250, li296, li297, li298, li299, li300, li301, li302, li303, li606, li1515, li1818, li16384, li1048576, li2147483647, li10000, lj0, lj1, lj10000]
          · unfold fX6_insert
            simp (disch := omega) only [e1, ep, e2, e4, Mzz, Mzz2, Mtt, Mtz, Mtl, Mtx, Sum.elim_inl, Sum.elim_inr, bi_tr, bi_fa, Sh_same, Sh_ss, gd_true, gd_dec, lt_def, bind_s, isb_0, isb_1, iZ_add, iZ_sub, iZ_mul, iZ_neg, lZ_add, lZ_sub, lZ_mul, iZ_lt, iZ_le, iZ_eq, lZ_lt, lZ_le, lZ_eq, iZ_64, iZ_N, inb_Z, if_pos, if_neg, ↓reduceIte, Bool.true_eq_false, Bool.false_eq_true, li0, li1, li2, li3, li4, li5, li6, li9, li10, li16, li20, li23, li24, li25, li31, li33, li44, li48, li49, li50, li51, li57, li59, li60, li63, li69, li70, li71, li72, li74, li99, li100, li119, li126, li250, li296, li297, li298, li299, li300, li301, li302, li303, li606, li1515, li1818, li16384, li1048576, li2147483647, li10000, lj0, lj1, lj10000]
      · have f3 := plcN X Y hx
        have e4 := nbrN X Y W (fun q => hx q.1)
        refine ⟨.inl (1, u, hs), iZ 0, M_s_thrown m (iZ 2), ?_, ?_, Gst.l 1 rfl rfl (fun _ => WB.mk G)⟩
        · unfold fX5_insert
          simp (disch := omega) only [f1, hst, fs, f3, Mzz, Mzz2, Mtt, Mtz, Mtl, Mtx, Sum.elim_inl, Sum.elim_inr, bi_tr, bi_fa, Sh_same, Sh_ss, gd_true, gd_dec, lt_def, bind_s, isb_0, isb_1, iZ_add, iZ_sub, iZ_mul, iZ_neg, lZ_add, lZ_sub, lZ_mul, iZ_lt, iZ_le, iZ_eq, lZ_lt, lZ_le, lZ_eq, iZ_64, iZ_N, inb_Z, if_pos, if_neg, ↓reduceIte, Bool.true_eq_false, Bool.false_eq_true, li0, li1, li2, li3, li4, li5, li6, li9, li10, li16, li20, li23, li24, li25, li31, li33, li44, li48, li49, li50, li51, li57, li59, li60, li63, li69, li70, li71, li72, li74, li99, li100, li119, li126, li250, li296, li297, li298, li299, li300, li301, li302, li303, li606, li1515, li1818, li16384, li1048576, li2147483647, li10000, lj0, lj1, lj10000]
        · unfold fX6_insert
          simp (disch := omega) only [e1, ep, e2, e4, Mzz, Mzz2, Mtt, Mtz, Mtl, Mtx, Sum.elim_inl, Sum.elim_inr, bi_tr, bi_fa, Sh_same, Sh_ss, gd_true, gd_dec, lt_def, bind_s, isb_0, isb_1, iZ_add, iZ_sub, iZ_mul, iZ_neg, lZ_add, lZ_sub, lZ_mul, iZ_lt, iZ_le, iZ_eq, lZ_lt, lZ_le, lZ_eq, iZ_64, iZ_N, inb_Z, if_pos, if_neg, ↓reduceIte, Bool.true_eq_false, Bool.false_eq_true, li0, li1, li2, li3, li4, li5, li6, li9, li10, li16, li20, li23, li24, li25, li31, li33, li44, li48, li49, li50, li51, li57, li59, li60, li63, li69, li70, li71, li72, li74, li99, li100, li119, li126, li250, li296, li297, li298, li299, li300, li301, li302, li303, li606, li1515, li1818, li16384, li1048576, li2147483647, li10000, lj0, lj1, lj10000]
    · have e2 := inN I (lo := 0) (hi := n) (by omega) (by omega) hi
      by_cases i0 : i < 0
      · refine ⟨.inl (0, u, hs), iZ 0, M_s_thrown m (iZ 1), ?_, ?_, Gst.l 0 rfl rfl (fun _ => WB.mk G)⟩
        · unfold fX5_insert
          simp (disch := omega) only [f1, hst, fs, Mzz, Mzz2, Mtt, Mtz, Mtl, Mtx, Sum.elim_inl, Sum.elim_inr, bi_tr, bi_fa, Sh_same, Sh_ss, gd_true, gd_dec, lt_def, bind_s, isb_0, isb_1, iZ_add, iZ_sub, iZ_mul, iZ_neg, lZ_add, lZ_sub, lZ_mul, iZ_lt, iZ_le, iZ_eq, lZ_lt, lZ_le, lZ_eq, iZ_64, iZ_N, inb_Z, if_pos, if_neg, ↓reduceIte, Bool.true_eq_false, Bool.false_eq_true, li0, li1, li2, li3, li4, li5, li6, li9, li10, li16, li20, li23, li24, li25, li31, li33, li44, li48, li49, li50, li51, li57, li59, li60, li63, li69, li70, li71, li72, li74, li99, li100, li119, li126, li250, li296, li297, li298, li299, li300, li301, li302, li303, li606, li1515, li1818, li16384, li1048576, li2147483647, li10000, lj0, lj1, lj10000]
        · unfold fX6_insert
          simp (disch := omega) only [e1, ep, e2, Mzz, Mzz2, Mtt, Mtz, Mtl, Mtx, Sum.elim_inl, Sum.elim_inr, bi_tr, bi_fa, Sh_same, Sh_ss, gd_true, gd_dec, lt_def, bind_s, isb_0, isb_1, iZ_add, iZ_sub, iZ_mul, iZ_neg, lZ_add, lZ_sub, lZ_mul, iZ_lt, iZ_le, iZ_eq, lZ_lt, lZ_le, lZ_eq, iZ_64, iZ_N, inb_Z, if_pos, if_neg, ↓reduceIte, Bool.true_eq_false, Bool.false_eq_true, li0, li1, li2, li3, li4, li5, li6, li9, li10, li16, li20, li23, li24, li25, li31, li33, li44, li48, li49, li50, li51, li57, li59, li60, li63, li69, li70, li71, li72, li74, li99, li100, li119, li126, li250, li296, li297, li298, li299, li300, li301, li302, li303, li606, li1515, li1818, li16384, li1048576, li2147483647, li10000, lj0, lj1, lj10000]
      · refine ⟨.inl (0, u, hs), iZ 0, M_s_thrown m (iZ 1), ?_, ?_, Gst.l 0 rfl rfl (fun _ => WB.mk G)⟩
        · unfold fX5_insert
          simp (disch := omega) only [f1, hst, fs, Mzz, Mzz2, Mtt, Mtz, Mtl, Mtx, Sum.elim_inl, Sum.elim_inr, bi_tr, bi_fa, Sh_same, Sh_ss, gd_true, gd_dec, lt_def, bind_s, isb_0, isb_1, iZ_add, iZ_sub, iZ_mul, iZ_neg, lZ_add, lZ_sub, lZ_mul, iZ_lt, iZ_le, iZ_eq, lZ_lt, lZ_le, lZ_eq, iZ_64, iZ_N, inb_Z, if_pos, if_neg, ↓reduceIte, Bool.true_eq_false, Bool.false_eq_true, li0, li1, li2, li3, li4, li5, li6, li9, li10, li16, li20, li23, li24, li25, li31, li33, li44, li48, li49, li50, li51, li57, li59, li60, li63, li69, li70, li71, li72, li74, li99, li100, li119, li126, li250, li296, li297, li298, li299, li300, li301, li302, li303, li606, li1515, li1818, li16384, li1048576, li2147483647, li10000, lj0, lj1, lj10000]
        · unfold fX6_insert
          simp (disch := omega) only [e1, ep, e2, Mzz, Mzz2, Mtt, Mtz, Mtl, Mtx, Sum.elim_inl, Sum.elim_inr, bi_tr, bi_fa, Sh_same, Sh_ss, gd_true, gd_dec, lt_def, bind_s, isb_0, isb_1, iZ_add, iZ_sub, iZ_mul, iZ_neg, lZ_add, lZ_sub, lZ_mul, iZ_lt, iZ_le, iZ_eq, lZ_lt, lZ_le, lZ_eq, iZ_64, iZ_N, inb_Z, if_pos, if_neg, ↓reduceIte, Bool.true_eq_false, Bool.false_eq_true, li0, li1, li2, li3, li4, li5, li6, li9, li10, li16, li20, li23, li24, li25, li31, li33, li44, li48, li49, li50, li51, li57, li59, li60, li63, li69, li70, li71, li72, li74, li99, li100, li119, li126, li250, li296, li297, li298, li299, li300, li301, li302, li303, li606, li1515, li1818, li16384, li1048576, li2147483647, li10000, lj0, lj1, lj10000]
  · have f1 := exN A S ha
    have e1 := isN A S ha
    refine ⟨.inl (0, u, hs), iZ 0, M_s_thrown m (iZ 1), ?_, ?_, Gst.l 0 rfl rfl (fun _ => WB.mk G)⟩
    · unfold fX5_insert
      simp (disch := omega) only [f1, Mzz, Mzz2, Mtt, Mtz, Mtl, Mtx, Sum.elim_inl, Sum.elim_inr, bi_tr, bi_fa, Sh_same, Sh_ss, gd_true, gd_dec, lt_def, bind_s, isb_0, isb_1, iZ_add, iZ_sub, iZ_mul, iZ_neg, lZ_add, lZ_sub, lZ_mul, iZ_lt, iZ_le, iZ_eq, lZ_lt, lZ_le, lZ_eq, iZ_64, iZ_N, inb_Z, if_pos, if_neg, ↓reduceIte, Bool.true_eq_false, Bool.false_eq_true, li0, li1, li2, li3, li4, li5, li6, li9, li10, li16, li20, li23, li24, li25, li31, li33, li44, li48, li49, li50, li51, li57, li59, li60, li63, li69, li70, li71, li72, li74, li99, li100, li119, li126, li250, li296, li297, li298, li299, li300, li301, li302, li303, li606, li1515, li1818, li16384, li1048576, li2147483647, li10000, lj0, lj1, lj10000]
    · unfold fX6_insert
      simp (disch := omega) only [e1, Mzz, Mzz2, Mtt, Mtz, Mtl, Mtx, Sum.elim_inl, Sum.elim_inr, bi_tr, bi_fa, Sh_same, Sh_ss, gd_true, gd_dec, lt_def, bind_s, isb_0, isb_1, iZ_add, iZ_sub, iZ_mul, iZ_neg, lZ_add, lZ_sub, lZ_mul, iZ_lt, iZ_le, iZ_eq, lZ_lt, lZ_le, lZ_eq, iZ_64, iZ_N, inb_Z, if_pos, if_neg, ↓reduceIte, Bool.true_eq_false, Bool.false_eq_true, li0, li1, li2, li3, li4, li5, li6, li9, li10, li16, li20, li23, li24, li25, li31, li33, li44, li48, li49, li50, li51, li57, li59, li60, li63, li69, li70, li71, li72, li74, li99, li100, li119, li126, li250, li296, li297, li298, li299, li300, li301, li302, li303, li606, li1515, li1818, li16384, li1048576, li2147483647, li10000, lj0, lj1, lj10000]
theorem g_remove (G : GR u ts hs ns m) (p1 p2 : Int32) : ∃ (o : (Nat × ShS × HS) ⊕ (Int32 × ShS × HS)) (b : Int32) (m' : MS), fX5_remove p1 p2 u hs = some o ∧ fX6_remove p1 p2 m = some (b, m') ∧ Gst g [0, 2] D (obX5_remove g D R u ts bs ps hs ns o) b m' := by
  obtain ⟨a, rfl, A⟩ := iZ_B p1
  obtain ⟨i, rfl, I⟩ := iZ_B p2
  obtain ⟨⟨sc, S⟩, -⟩ := id G
  have hsc := S.1
  have hz : M_z m (296 : Int).toNat = iZ sc := S.2.2.1
  by_cases ha : 0 ≤ a ∧ a < sc
  · obtain ⟨n, N, K, q, hst, hm, M, hc, Rm⟩ := S.rms ha.1 ha.2
    have hn := M.1
    have hi5 : a.toNat < 5 := by omega
    have f1 := exY A S ha
    have ep := r_pts Rm
    have fs : fX3_size (q, iZ n, K) = some (iZ n) := rfl
    by_cases hi : 0 ≤ i ∧ i < n
    · have f2 := ptY (q := q) (K := K) I (by omega) hi
      have e2 := ipY A I S ha Rm hi
      by_cases h2 : 2 < n
      · obtain ⟨hs', m2, s1, s2, s3, s4, -, -, -, s5⟩ := g_rec2 (G.th (iZ 0))
        have s3 : M_z m2 = M_z m := s3
        have R2 : RMs m2 a n N K := ⟨Rm.1, by rw [s3]; exact Rm.2⟩
        have h4 : 0 ≤ a ∧ a < 4 := by omega
        obtain ⟨q', f5, hm'⟩ := c_remove (K := K) hm ⟨by omega, by omega⟩ hi.1 hi.2
        obtain ⟨z, e5, so1, z0, z1, zN⟩ := r_drop R2 (by omega) hi.1 hi.2
        have e6 := r_keepAll (u := M_s_z m2 z) (s := a) (n := n - 1) h4 z0
        have e8 : fX6_points (iZ a) (M_s_z m2 (upd z (74 * a + 1).toNat (allK (n - 1)))) = some (iZ (n - 1)) := by
          have t0 : upd z (74 * a + 1).toNat (allK (n - 1)) (74 * a).toNat = iZ (n - 1) := by
            rw [upd_n (by omega)]
            exact z0
          unfold fX6_points
          simp (disch := omega) only [t0, Mzz, Mzz2, Mtt, Mtz, Mtl, Mtx, Sum.elim_inl, Sum.elim_inr, bi_tr, bi_fa, Sh_same, Sh_ss, gd_true, gd_dec, lt_def, bind_s, isb_0, isb_1, iZ_add, iZ_sub, iZ_mul, iZ_neg, lZ_add, lZ_sub, lZ_mul, iZ_lt, iZ_le, iZ_eq, lZ_lt, lZ_le, lZ_eq, iZ_64, iZ_N, inb_Z, if_pos, if_neg, ↓reduceIte, Bool.true_eq_false, Bool.false_eq_true, li0, li1, li2, li3, li4, li5, li6, li9, li10, li16, li20, li23, li24, li25, li31, li33, li44, li48, li49, li50, li51, li57, li59, li60, li63, li69, li70, li71, li72, li74, li99, li100, li119, li126, li250, li296, li297, li298, li299, li300, li301, li302, li303, li606, li1515, li1818, li16384, li1048576, li2147483647, li10000, lj0, lj1, lj10000]
        have so : SameOut (M_z m) (upd z (74 * a + 1).toNat (allK (n - 1))) a := by
          rw [← s3]
          exact so1.tr (SameOut.up _ (by omega) (by omega) ha.1)
        have SX := S.set ha.1 ha.2 so ⟨n - 1, delN N i, allK (n - 1), q', rfl, hm', MK_all (by omega), hc.del hi.1, by rw [upd_n (by omega)]; exact z0, upd_s, fun j j0 j1 => by
          rw [upd_n (by omega)]
          exact zN j j0 j1⟩
        refine ⟨.inr (iZ (n - 1), Sh_s_st u a.toNat (q', iZ (n - 1), allK (n - 1)), hs'), iZ (n - 1), M_s_z m2 (upd z (74 * a + 1).toNat (allK (n - 1))), ?_, ?_, Gst.r (show M_thrown m2 = iZ 0 from s4) (fun _ => WB.mk (s5 _ _ _ SX))⟩
        · unfold fX5_remove
          simp (disch := omega) only [f1, hst, f2, fs, s1, f5, fX3_size, S_size, Mzz, Mzz2, Mtt, Mtz, Mtl, Mtx, Sum.elim_inl, Sum.elim_inr, bi_tr, bi_fa, Sh_same, Sh_ss, gd_true, gd_dec, lt_def, bind_s, isb_0, isb_1, iZ_add, iZ_sub, iZ_mul, iZ_neg, lZ_add, lZ_sub, lZ_mul, iZ_lt, iZ_le, iZ_eq, lZ_lt, lZ_le, lZ_eq, iZ_64, iZ_N, inb_Z, if_pos, if_neg, ↓reduceIte, Bool.true_eq_false, Bool.false_eq_true, li0, li1, li2, li3, li4, li5, li6, li9, li10, li16, li20, li23, li24, li25, li31, li33, li44, li48, li49, li50, li51, li57, li59, li60, li63, li69, li70, li71, li72, li74, li99, li100, li119, li126, li250, li296, li297, li298, li299, li300, li301, li302, li303, li606, li1515, li1818, li16384, li1048576, li2147483647, li10000, lj0, lj1, lj10000]
        · unfold fX6_remove
          simp (disch := omega) only [ep, e2, s2, e5, e6, e8, Mzz, Mzz2, Mtt, Mtz, Mtl, Mtx, Sum.elim_inl, Sum.elim_inr, bi_tr, bi_fa, Sh_same, Sh_ss, gd_true, gd_dec, lt_def, bind_s, isb_0, isb_1, iZ_add, iZ_sub, iZ_mul, iZ_neg, lZ_add, lZ_sub, lZ_mul, iZ_lt, iZ_le, iZ_eq, lZ_lt, lZ_le, lZ_eq, iZ_64, iZ_N, inb_Z, if_pos, if_neg, ↓reduceIte, Bool.true_eq_false, Bool.false_eq_true, li0, li1, li2, li3, li4, li5, li6, li9, li10, li16, li20, li23, li24, li25, li31, li33, li44, li48, li49, li50, li51, li57, li59, li60, li63, li69, li70, li71, li72, li74, li99, li100, li119, li126, li250, li296, li297, li298, li299, li300, li301, li302, li303, li606, li1515, li1818, li16384, li1048576, li2147483647, li10000, lj0, lj1, lj10000]
      · have : n = 2 := by omega
        subst this
        refine ⟨.inl (2, u, hs), iZ 0, M_s_thrown m (iZ 2), ?_, ?_, Gst.l 1 rfl rfl (fun _ => WB.mk G)⟩
        · unfold fX5_remove
          simp (disch := omega) only [f1, hst, f2, fs, Mzz, Mzz2, Mtt, Mtz, Mtl, Mtx, Sum.elim_inl, Sum.elim_inr, bi_tr, bi_fa, Sh_same, Sh_ss, gd_true, gd_dec, lt_def, bind_s, isb_0, isb_1, iZ_add, iZ_sub, iZ_mul, iZ_neg, lZ_add, lZ_sub, lZ_mul, iZ_lt, iZ_le, iZ_eq, lZ_lt, lZ_le, lZ_eq, iZ_64, iZ_N, inb_Z, if_pos, if_neg, ↓reduceIte, Bool.true_eq_false, Bool.false_eq_true, li0, li1, li2, li3, li4, li5, li6, li9, li10, li16, li20, li23, li24, li25, li31, li33, li44, li48, li49, li50, li51, li57, li59, li60, li63, li69, li70, li71, li72, li74, li99, li100, li119, li126, li250, li296, li297, li298, li299, li300, li301, li302, li303, li606, li1515, li1818, li16384, li1048576, li2147483647, li10000, lj0, lj1, lj10000]
        · unfold fX6_remove
          simp (disch := omega) only [e2, ep, Mzz, Mzz2, Mtt, Mtz, Mtl, Mtx, Sum.elim_inl, Sum.elim_inr, bi_tr, bi_fa, Sh_same, Sh_ss, gd_true, gd_dec, lt_def, bind_s, isb_0, isb_1, iZ_add, iZ_sub, iZ_mul, iZ_neg, lZ_add, lZ_sub, lZ_mul, iZ_lt, iZ_le, iZ_eq, lZ_lt, lZ_le, lZ_eq, iZ_64, iZ_N, inb_Z, if_pos, if_neg, ↓reduceIte, Bool.true_eq_false, Bool.false_eq_true, li0, li1, li2, li3, li4, li5, li6, li9, li10, li16, li20, li23, li24, li25, li31, li33, li44, li48, li49, li50, li51, li57, li59, li60, li63, li69, li70, li71, li72, li74, li99, li100, li119, li126, li250, li296, li297, li298, li299, li300, li301, li302, li303, li606, li1515, li1818, li16384, li1048576, li2147483647, li10000, lj0, lj1, lj10000]
    · have f2 := ptN (q := q) (K := K) I (by omega) hi
      have e2 := ipN A I S ha Rm hi
      refine ⟨.inl (0, u, hs), iZ 0, M_s_thrown m (iZ 1), ?_, ?_, Gst.l 0 rfl rfl (fun _ => WB.mk G)⟩
      · unfold fX5_remove
        simp (disch := omega) only [f1, hst, f2, Mzz, Mzz2, Mtt, Mtz, Mtl, Mtx, Sum.elim_inl, Sum.elim_inr, bi_tr, bi_fa, Sh_same, Sh_ss, gd_true, gd_dec, lt_def, bind_s, isb_0, isb_1, iZ_add, iZ_sub, iZ_mul, iZ_neg, lZ_add, lZ_sub, lZ_mul, iZ_lt, iZ_le, iZ_eq, lZ_lt, lZ_le, lZ_eq, iZ_64, iZ_N, inb_Z, if_pos, if_neg, ↓reduceIte, Bool.true_eq_false, Bool.false_eq_true, li0, li1, li2, li3, li4, li5, li6, li9, li10, li16, li20, li23, li24, li25, li31, li33, li44, li48, li49, li50, li51, li57, li59, li60, li63, li69, li70, li71, li72, li74, li99, li100, li119, li126, li250, li296, li297, li298, li299, li300, li301, li302, li303, li606, li1515, li1818, li16384, li1048576, li2147483647, li10000, lj0, lj1, lj10000]
      · unfold fX6_remove
        simp (disch := omega) only [e2, Mzz, Mzz2, Mtt, Mtz, Mtl, Mtx, Sum.elim_inl, Sum.elim_inr, bi_tr, bi_fa, Sh_same, Sh_ss, gd_true, gd_dec, lt_def, bind_s, isb_0, isb_1, iZ_add, iZ_sub, iZ_mul, iZ_neg, lZ_add, lZ_sub, lZ_mul, iZ_lt, iZ_le, iZ_eq, lZ_lt, lZ_le, lZ_eq, iZ_64, iZ_N, inb_Z, if_pos, if_neg, ↓reduceIte, Bool.true_eq_false, Bool.false_eq_true, li0, li1, li2, li3, li4, li5, li6, li9, li10, li16, li20, li23, li24, li25, li31, li33, li44, li48, li49, li50, li51, li57, li59, li60, li63, li69, li70, li71, li72, li74, li99, li100, li119, li126, li250, li296, li297, li298, li299, li300, li301, li302, li303, li606, li1515, li1818, li16384, li1048576, li2147483647, li10000, lj0, lj1, lj10000]
  · have f1 := exN A S ha
    have e2 := ipS (i := i) A S ha
    refine ⟨.inl (0, u, hs), iZ 0, M_s_thrown m (iZ 1), ?_, ?_, Gst.l 0 rfl rfl (fun _ => WB.mk G)⟩
    · unfold fX5_remove
      simp (disch := omega) only [f1, Mzz, Mzz2, Mtt, Mtz, Mtl, Mtx, Sum.elim_inl, Sum.elim_inr, bi_tr, bi_fa, Sh_same, Sh_ss, gd_true, gd_dec, lt_def, bind_s, isb_0, isb_1, iZ_add, iZ_sub, iZ_mul, iZ_neg, lZ_add, lZ_sub, lZ_mul, iZ_lt, iZ_le, iZ_eq, lZ_lt, lZ_le, lZ_eq, iZ_64, iZ_N, inb_Z, if_pos, if_neg, ↓reduceIte, Bool.true_eq_false, Bool.false_eq_true, li0, li1, li2, li3, li4, li5, li6, li9, li10, li16, li20, li23, li24, li25, li31, li33, li44, li48, li49, li50, li51, li57, li59, li60, li63, li69, li70, li71, li72, li74, li99, li100, li119, li126, li250, li296, li297, li298, li299, li300, li301, li302, li303, li606, li1515, li1818, li16384, li1048576, li2147483647, li10000, lj0, lj1, lj10000]
    · unfold fX6_remove
      simp (disch := omega) only [e2, Mzz, Mzz2, Mtt, Mtz, Mtl, Mtx, Sum.elim_inl, Sum.elim_inr, bi_tr, bi_fa, Sh_same, Sh_ss, gd_true, gd_dec, lt_def, bind_s, isb_0, isb_1, iZ_add, iZ_sub, iZ_mul, iZ_neg, lZ_add, lZ_sub, lZ_mul, iZ_lt, iZ_le, iZ_eq, lZ_lt, lZ_le, lZ_eq, iZ_64, iZ_N, inb_Z, if_pos, if_neg, ↓reduceIte, Bool.true_eq_false, Bool.false_eq_true, li0, li1, li2, li3, li4, li5, li6, li9, li10, li16, li20, li23, li24, li25, li31, li33, li44, li48, li49, li50, li51, li57, li59, li60, li63, li69, li70, li71, li72, li74, li99, li100, li119, li126, li250, li296, li297, li298, li299, li300, li301, li302, li303, li606, li1515, li1818, li16384, li1048576, li2147483647, li10000, lj0, lj1, lj10000]
theorem g_bake (G : GR u ts hs ns m) (p1 : Int32) : ∃ (o : (Nat × ShS × HS) ⊕ (Int32 × ShS × HS)) (b : Int32) (m' : MS), fX5_bake p1 u hs = some o ∧ fX6_bake p1 m = some (b, m') ∧ Gst g [0] D (obX5_bake g D R u ts bs ps hs ns o) b m' := by
  obtain ⟨a, rfl, A⟩ := iZ_B p1
  obtain ⟨⟨sc, S⟩, -⟩ := id G
  have hsc := S.1
  have hz : M_z m (296 : Int).toNat = iZ sc := S.2.2.1
  by_cases ha : 0 ≤ a ∧ a < sc
  · obtain ⟨n, N, K, q, hst, hm, M, hc, Rm⟩ := S.rms ha.1 ha.2
    have hn := M.1
    have hi5 : a.toNat < 5 := by omega
    have f1 := exY A S ha
    have e1 := isY A S ha
    have fs : fX3_size (q, iZ n, K) = some (iZ n) := rfl
    obtain ⟨hs', m2, s1, s2, s3, s4, -, -, -, s5⟩ := g_rec2 (G.th (iZ 0))
    have s3 : M_z m2 = M_z m := s3
    have R2 : RMs m2 a n N K := ⟨Rm.1, by rw [s3]; exact Rm.2⟩
    have h4 : 0 ≤ a ∧ a < 4 := by omega
    obtain ⟨k1, k2, k3⟩ := M.cnt
    obtain ⟨q', z, N', f5, e5, so1, ⟨z0, z1, zN⟩, hm', hc'⟩ := baking R2 hm M hc
    have ep := r_pts R2
    have ek := r_kept R2
    have eo := r_ones K
    rw [k1] at eo
    have e6 := r_keepAll (u := M_s_z m2 z) (s := a) (n := cK K n) h4 z0
    have so : SameOut (M_z m) (upd z (74 * a + 1).toNat (allK (cK K n))) a := by
      rw [← s3]
      exact so1.tr (SameOut.up _ (by omega) (by omega) ha.1)
    have SX := S.set ha.1 ha.2 so ⟨cK K n, N', allK (cK K n), q', rfl, hm', MK_all (by omega), hc', by rw [upd_n (by omega)]; exact z0, upd_s, fun j j0 j1 => by
      rw [upd_n (by omega)]
      exact zN j j0 j1⟩
    refine ⟨.inr (iZ (n - cK K n), Sh_s_st u a.toNat (q', iZ (cK K n), allK (cK K n)), hs'), iZ (n - cK K n), M_s_z m2 (upd z (74 * a + 1).toNat (allK (cK K n))), ?_, ?_, Gst.r (show M_thrown m2 = iZ 0 from s4) (fun _ => WB.mk (s5 _ _ _ SX))⟩
    · unfold fX5_bake
      simp (disch := omega) only [f1, hst, fs, s1, f5, fX3_size, S_size, Mzz, Mzz2, Mtt, Mtz, Mtl, Mtx, Sum.elim_inl, Sum.elim_inr, bi_tr, bi_fa, Sh_same, Sh_ss, gd_true, gd_dec, lt_def, bind_s, isb_0, isb_1, iZ_add, iZ_sub, iZ_mul, iZ_neg, lZ_add, lZ_sub, lZ_mul, iZ_lt, iZ_le, iZ_eq, lZ_lt, lZ_le, lZ_eq, iZ_64, iZ_N, inb_Z, if_pos, if_neg, ↓reduceIte, Bool.true_eq_false, Bool.false_eq_true, li0, li1, li2, li3, li4, li5, li6, li9, li10, li16, li20, li23, li24, li25, li31, li33, li44, li48, li49, li50, li51, li57, li59, li60, li63, li69, li70, li71, li72, li74, li99, li100, li119, li126, li250, li296, li297, li298, li299, li300, li301, li302, li303, li606, li1515, li1818, li16384, li1048576, li2147483647, li10000, lj0, lj1, lj10000]
    · unfold fX6_bake
      simp (disch := omega) only [e1, s2, ek, ep, eo, e5, e6, Mzz, Mzz2, Mtt, Mtz, Mtl, Mtx, Sum.elim_inl, Sum.elim_inr, bi_tr, bi_fa, Sh_same, Sh_ss, gd_true, gd_dec, lt_def, bind_s, isb_0, isb_1, iZ_add, iZ_sub, iZ_mul, iZ_neg, lZ_add, lZ_sub, lZ_mul, iZ_lt, iZ_le, iZ_eq, lZ_lt, lZ_le, lZ_eq, iZ_64, iZ_N, inb_Z, if_pos, if_neg, ↓reduceIte, Bool.true_eq_false, Bool.false_eq_true, li0, li1, li2, li3, li4, li5, li6, li9, li10, li16, li20, li23, li24, li25, li31, li33, li44, li48, li49, li50, li51, li57, li59, li60, li63, li69, li70, li71, li72, li74, li99, li100, li119, li126, li250, li296, li297, li298, li299, li300, li301, li302, li303, li606, li1515, li1818, li16384, li1048576, li2147483647, li10000, lj0, lj1, lj10000]
  · have f1 := exN A S ha
    have e1 := isN A S ha
    refine ⟨.inl (0, u, hs), iZ 0, M_s_thrown m (iZ 1), ?_, ?_, Gst.l 0 rfl rfl (fun _ => WB.mk G)⟩
    · unfold fX5_bake
      simp (disch := omega) only [f1, Mzz, Mzz2, Mtt, Mtz, Mtl, Mtx, Sum.elim_inl, Sum.elim_inr, bi_tr, bi_fa, Sh_same, Sh_ss, gd_true, gd_dec, lt_def, bind_s, isb_0, isb_1, iZ_add, iZ_sub, iZ_mul, iZ_neg, lZ_add, lZ_sub, lZ_mul, iZ_lt, iZ_le, iZ_eq, lZ_lt, lZ_le, lZ_eq, iZ_64, iZ_N, inb_Z, if_pos, if_neg, ↓reduceIte, Bool.true_eq_false, Bool.false_eq_true, li0, li1, li2, li3, li4, li5, li6, li9, li10, li16, li20, li23, li24, li25, li31, li33, li44, li48, li49, li50, li51, li57, li59, li60, li63, li69, li70, li71, li72, li74, li99, li100, li119, li126, li250, li296, li297, li298, li299, li300, li301, li302, li303, li606, li1515, li1818, li16384, li1048576, li2147483647, li10000, lj0, lj1, lj10000]
    · unfold fX6_bake
      simp (disch := omega) only [e1, Mzz, Mzz2, Mtt, Mtz, Mtl, Mtx, Sum.elim_inl, Sum.elim_inr, bi_tr, bi_fa, Sh_same, Sh_ss, gd_true, gd_dec, lt_def, bind_s, isb_0, isb_1, iZ_add, iZ_sub, iZ_mul, iZ_neg, lZ_add, lZ_sub, lZ_mul, iZ_lt, iZ_le, iZ_eq, lZ_lt, lZ_le, lZ_eq, iZ_64, iZ_N, inb_Z, if_pos, if_neg, ↓reduceIte, Bool.true_eq_false, Bool.false_eq_true, li0, li1, li2, li3, li4, li5, li6, li9, li10, li16, li20, li23, li24, li25, li31, li33, li44, li48, li49, li50, li51, li57, li59, li60, li63, li69, li70, li71, li72, li74, li99, li100, li119, li126, li250, li296, li297, li298, li299, li300, li301, li302, li303, li606, li1515, li1818, li16384, li1048576, li2147483647, li10000, lj0, lj1, lj10000]
end Q
end
