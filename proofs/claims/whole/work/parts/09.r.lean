section
/-! the whole: a stroke's numbers; counts; the nearest point -/
theorem li7 : (7 : Int32) = iZ 7 := rfl
theorem li8 : (8 : Int32) = iZ 8 := rfl
section Q
variable {g : kG} {D : Nat → Nat → Nat} {R : kAd} {u : ShS} {ts : TS} {bs : SS} {ps : PS} {hs : HS} {ns : NS} {m : MS}
theorem g_strokeOf (G : GR u ts hs ns m) (p1 p2 : Int32) : ∃ (o : Nat ⊕ Int32) (b : Int32) (m' : MS), fX5_strokeOf p1 p2 u = some o ∧ fX6_strokeOf p1 p2 m = some (b, m') ∧ Gst g [0, 1] D (obX5_strokeOf g D R u ts bs ps hs ns o) b m' := by
  obtain ⟨a, rfl, A⟩ := iZ_B p1
  obtain ⟨w, rfl, W⟩ := iZ_B p2
  obtain ⟨⟨sc, S⟩, -⟩ := id G
  have hsc := S.1
  by_cases ha : 0 ≤ a ∧ a < sc
  · obtain ⟨n, N, K, q, hst, hm, M, hc, Rm⟩ := S.rms ha.1 ha.2
    have hn := M.1
    have hi5 : a.toNat < 5 := by omega
    have f1 := exY A S ha
    have f2 := isY A S ha
    have Rm1 : RMs (M_s_thrown m (iZ 0)) a n N K := Rm
    have f6 := r_pts Rm1
    have f7 := r_kept Rm1
    by_cases hw : 0 ≤ w ∧ w ≤ 10
    · have e3 := inY W (lo := 0) (hi := 10) (by omega) (by omega) hw
      have hcs : w = 0 ∨ w = 1 ∨ w = 2 ∨ w = 3 ∨ w = 4 ∨ w = 5 ∨ w = 6 ∨ w = 7 ∨ w = 8 ∨ w = 9 ∨ w = 10 := by omega
      rcases hcs with rfl | rfl | rfl | rfl | rfl | rfl | rfl | rfl | rfl | rfl | rfl
      · have f3 : fX3_size (q, iZ n, K) = some (iZ n) := rfl
        refine ⟨.inr (iZ n), iZ n, M_s_thrown m (iZ 0), ?_, ?_, Gst.r rfl (fun _ => WB.mk G)⟩
        · unfold fX5_strokeOf
          simp (disch := omega) only [f1, hst, f3, li7, li8, Mzz, Mzz2, Mtt, Mtz, Mtl, Mtx, Sum.elim_inl, Sum.elim_inr, bi_tr, bi_fa, gd_true, gd_dec, lt_def, bind_s, isb_0, isb_1, iZ_add, iZ_sub, iZ_mul, iZ_neg, lZ_add, lZ_sub, lZ_mul, iZ_lt, iZ_le, iZ_eq, lZ_lt, lZ_le, lZ_eq, iZ_64, iZ_N, inb_Z, if_pos, if_neg, ↓reduceIte, Bool.true_eq_false, Bool.false_eq_true, li0, li1, li2, li3, li4, li5, li6, li9, li10, li16, li20, li23, li24, li25, li31, li33, li44, li48, li49, li50, li51, li57, li59, li60, li63, li69, li70, li71, li72, li74, li99, li100, li119, li126, li250, li296, li297, li298, li299, li300, li301, li302, li303, li606, li1515, li1818, li16384, li1048576, li2147483647, li10000, lj0, lj1, lj10000]
        · unfold fX6_strokeOf
          simp (disch := omega) only [f2, e3, f6, li7, li8, Mzz, Mzz2, Mtt, Mtz, Mtl, Mtx, Sum.elim_inl, Sum.elim_inr, bi_tr, bi_fa, gd_true, gd_dec, lt_def, bind_s, isb_0, isb_1, iZ_add, iZ_sub, iZ_mul, iZ_neg, lZ_add, lZ_sub, lZ_mul, iZ_lt, iZ_le, iZ_eq, lZ_lt, lZ_le, lZ_eq, iZ_64, iZ_N, inb_Z, if_pos, if_neg, ↓reduceIte, Bool.true_eq_false, Bool.false_eq_true, li0, li1, li2, li3, li4, li5, li6, li9, li10, li16, li20, li23, li24, li25, li31, li33, li44, li48, li49, li50, li51, li57, li59, li60, li63, li69, li70, li71, li72, li74, li99, li100, li119, li126, li250, li296, li297, li298, li299, li300, li301, li302, li303, li606, li1515, li1818, li16384, li1048576, li2147483647, li10000, lj0, lj1, lj10000]
      · have f4 := M.ones.1
        have e4 := r_ones K
        refine ⟨.inr (iZ (su (onz K) 0 24)), iZ (su (onz K) 0 24), M_s_thrown m (iZ 0), ?_, ?_, Gst.r rfl (fun _ => WB.mk G)⟩
        · unfold fX5_strokeOf
          simp (disch := omega) only [f1, hst, fX3_keptCount, S_kept, f4, li7, li8, Mzz, Mzz2, Mtt, Mtz, Mtl, Mtx, Sum.elim_inl, Sum.elim_inr, bi_tr, bi_fa, gd_true, gd_dec, lt_def, bind_s, isb_0, isb_1, iZ_add, iZ_sub, iZ_mul, iZ_neg, lZ_add, lZ_sub, lZ_mul, iZ_lt, iZ_le, iZ_eq, lZ_lt, lZ_le, lZ_eq, iZ_64, iZ_N, inb_Z, if_pos, if_neg, ↓reduceIte, Bool.true_eq_false, Bool.false_eq_true, li0, li1, li2, li3, li4, li5, li6, li9, li10, li16, li20, li23, li24, li25, li31, li33, li44, li48, li49, li50, li51, li57, li59, li60, li63, li69, li70, li71, li72, li74, li99, li100, li119, li126, li250, li296, li297, li298, li299, li300, li301, li302, li303, li606, li1515, li1818, li16384, li1048576, li2147483647, li10000, lj0, lj1, lj10000]
        · unfold fX6_strokeOf
          simp (disch := omega) only [f2, e3, f7, e4, li7, li8, Mzz, Mzz2, Mtt, Mtz, Mtl, Mtx, Sum.elim_inl, Sum.elim_inr, bi_tr, bi_fa, gd_true, gd_dec, lt_def, bind_s, isb_0, isb_1, iZ_add, iZ_sub, iZ_mul, iZ_neg, lZ_add, lZ_sub, lZ_mul, iZ_lt, iZ_le, iZ_eq, lZ_lt, lZ_le, lZ_eq, iZ_64, iZ_N, inb_Z, if_pos, if_neg, ↓reduceIte, Bool.true_eq_false, Bool.false_eq_true, li0, li1, li2, li3, li4, li5, li6, li9, li10, li16, li20, li23, li24, li25, li31, li33, li44, li48, li49, li50, li51, li57, li59, li60, li63, li69, li70, li71, li72, li74, li99, li100, li119, li126, li250, li296, li297, li298, li299, li300, li301, li302, li303, li606, li1515, li1818, li16384, li1048576, li2147483647, li10000, lj0, lj1, lj10000]
      · obtain ⟨c, f3, c1, c2⟩ := S.v1
        obtain ⟨wv, f4, d1, d2⟩ := S.v2
        have f5 := c_countKind 2 hi5 hst f3 f4 hm hc (by omega) c2.1 c2.2 (by omega) (by omega)
        have e5 := r_fixedMany 2 Rm1 hc c1 d1 c2.1 c2.2 (by omega) (by omega)
        refine ⟨.inr (iZ (su (bitP (kdD N n c wv) 2) 0 n)), iZ (su (bitP (kdD N n c wv) 2) 0 n), M_s_thrown m (iZ 0), ?_, ?_, Gst.r rfl (fun _ => WB.mk G)⟩
        · unfold fX5_strokeOf
          simp (disch := omega) only [f1, hst, f5, li7, li8, Mzz, Mzz2, Mtt, Mtz, Mtl, Mtx, Sum.elim_inl, Sum.elim_inr, bi_tr, bi_fa, gd_true, gd_dec, lt_def, bind_s, isb_0, isb_1, iZ_add, iZ_sub, iZ_mul, iZ_neg, lZ_add, lZ_sub, lZ_mul, iZ_lt, iZ_le, iZ_eq, lZ_lt, lZ_le, lZ_eq, iZ_64, iZ_N, inb_Z, if_pos, if_neg, ↓reduceIte, Bool.true_eq_false, Bool.false_eq_true, li0, li1, li2, li3, li4, li5, li6, li9, li10, li16, li20, li23, li24, li25, li31, li33, li44, li48, li49, li50, li51, li57, li59, li60, li63, li69, li70, li71, li72, li74, li99, li100, li119, li126, li250, li296, li297, li298, li299, li300, li301, li302, li303, li606, li1515, li1818, li16384, li1048576, li2147483647, li10000, lj0, lj1, lj10000]
        · unfold fX6_strokeOf
          simp (disch := omega) only [f2, e3, e5, li7, li8, Mzz, Mzz2, Mtt, Mtz, Mtl, Mtx, Sum.elim_inl, Sum.elim_inr, bi_tr, bi_fa, gd_true, gd_dec, lt_def, bind_s, isb_0, isb_1, iZ_add, iZ_sub, iZ_mul, iZ_neg, lZ_add, lZ_sub, lZ_mul, iZ_lt, iZ_le, iZ_eq, lZ_lt, lZ_le, lZ_eq, iZ_64, iZ_N, inb_Z, if_pos, if_neg, ↓reduceIte, Bool.true_eq_false, Bool.false_eq_true, li0, li1, li2, li3, li4, li5, li6, li9, li10, li16, li20, li23, li24, li25, li31, li33, li44, li48, li49, li50, li51, li57, li59, li60, li63, li69, li70, li71, li72, li74, li99, li100, li119, li126, li250, li296, li297, li298, li299, li300, li301, li302, li303, li606, li1515, li1818, li16384, li1048576, li2147483647, li10000, lj0, lj1, lj10000]
      · obtain ⟨c, f3, c1, c2⟩ := S.v1
        obtain ⟨wv, f4, d1, d2⟩ := S.v2
        have f5 := c_countKind 4 hi5 hst f3 f4 hm hc (by omega) c2.1 c2.2 (by omega) (by omega)
        have e5 := r_fixedMany 4 Rm1 hc c1 d1 c2.1 c2.2 (by omega) (by omega)
        refine ⟨.inr (iZ (su (bitP (kdD N n c wv) 4) 0 n)), iZ (su (bitP (kdD N n c wv) 4) 0 n), M_s_thrown m (iZ 0), ?_, ?_, Gst.r rfl (fun _ => WB.mk G)⟩
        · unfold fX5_strokeOf
          simp (disch := omega) only [f1, hst, f5, li7, li8, Mzz, Mzz2, Mtt, Mtz, Mtl, Mtx, Sum.elim_inl, Sum.elim_inr, bi_tr, bi_fa, gd_true, gd_dec, lt_def, bind_s, isb_0, isb_1, iZ_add, iZ_sub, iZ_mul, iZ_neg, lZ_add, lZ_sub, lZ_mul, iZ_lt, iZ_le, iZ_eq, lZ_lt, lZ_le, lZ_eq, iZ_64, iZ_N, inb_Z, if_pos, if_neg, ↓reduceIte, Bool.true_eq_false, Bool.false_eq_true, li0, li1, li2, li3, li4, li5, li6, li9, li10, li16, li20, li23, li24, li25, li31, li33, li44, li48, li49, li50, li51, li57, li59, li60, li63, li69, li70, li71, li72, li74, li99, li100, li119, li126, li250, li296, li297, li298, li299, li300, li301, li302, li303, li606, li1515, li1818, li16384, li1048576, li2147483647, li10000, lj0, lj1, lj10000]
        · unfold fX6_strokeOf
          simp (disch := omega) only [f2, e3, e5, li7, li8, Mzz, Mzz2, Mtt, Mtz, Mtl, Mtx, Sum.elim_inl, Sum.elim_inr, bi_tr, bi_fa, gd_true, gd_dec, lt_def, bind_s, isb_0, isb_1, iZ_add, iZ_sub, iZ_mul, iZ_neg, lZ_add, lZ_sub, lZ_mul, iZ_lt, iZ_le, iZ_eq, lZ_lt, lZ_le, lZ_eq, iZ_64, iZ_N, inb_Z, if_pos, if_neg, ↓reduceIte, Bool.true_eq_false, Bool.false_eq_true, li0, li1, li2, li3, li4, li5, li6, li9, li10, li16, li20, li23, li24, li25, li31, li33, li44, li48, li49, li50, li51, li57, li59, li60, li63, li69, li70, li71, li72, li74, li99, li100, li119, li126, li250, li296, li297, li298, li299, li300, li301, li302, li303, li606, li1515, li1818, li16384, li1048576, li2147483647, li10000, lj0, lj1, lj10000]
      · have f5 := c_length hm hc M
        have e5 := r_length Rm1 hc M
        refine ⟨.inr (iZ (su (lnF N K) 1 n)), iZ (su (lnF N K) 1 n), M_s_thrown m (iZ 0), ?_, ?_, Gst.r rfl (fun _ => WB.mk G)⟩
        · unfold fX5_strokeOf
          simp (disch := omega) only [f1, hst, f5, li7, li8, Mzz, Mzz2, Mtt, Mtz, Mtl, Mtx, Sum.elim_inl, Sum.elim_inr, bi_tr, bi_fa, gd_true, gd_dec, lt_def, bind_s, isb_0, isb_1, iZ_add, iZ_sub, iZ_mul, iZ_neg, lZ_add, lZ_sub, lZ_mul, iZ_lt, iZ_le, iZ_eq, lZ_lt, lZ_le, lZ_eq, iZ_64, iZ_N, inb_Z, if_pos, if_neg, ↓reduceIte, Bool.true_eq_false, Bool.false_eq_true, li0, li1, li2, li3, li4, li5, li6, li9, li10, li16, li20, li23, li24, li25, li31, li33, li44, li48, li49, li50, li51, li57, li59, li60, li63, li69, li70, li71, li72, li74, li99, li100, li119, li126, li250, li296, li297, li298, li299, li300, li301, li302, li303, li606, li1515, li1818, li16384, li1048576, li2147483647, li10000, lj0, lj1, lj10000]
        · unfold fX6_strokeOf
          simp (disch := omega) only [f2, e3, e5, li7, li8, Mzz, Mzz2, Mtt, Mtz, Mtl, Mtx, Sum.elim_inl, Sum.elim_inr, bi_tr, bi_fa, gd_true, gd_dec, lt_def, bind_s, isb_0, isb_1, iZ_add, iZ_sub, iZ_mul, iZ_neg, lZ_add, lZ_sub, lZ_mul, iZ_lt, iZ_le, iZ_eq, lZ_lt, lZ_le, lZ_eq, iZ_64, iZ_N, inb_Z, if_pos, if_neg, ↓reduceIte, Bool.true_eq_false, Bool.false_eq_true, li0, li1, li2, li3, li4, li5, li6, li9, li10, li16, li20, li23, li24, li25, li31, li33, li44, li48, li49, li50, li51, li57, li59, li60, li63, li69, li70, li71, li72, li74, li99, li100, li119, li126, li250, li296, li297, li298, li299, li300, li301, li302, li303, li606, li1515, li1818, li16384, li1048576, li2147483647, li10000, lj0, lj1, lj10000]
      · obtain ⟨gg, pp, GS, f5⟩ := c_gs hm hc M
        have f8 := c_stray hm hc M GS.1.1 GS.1.2
        rw [GS.2.1] at f8
        obtain ⟨qq, e5⟩ := r_gs Rm1 hc M GS
        refine ⟨.inr (iZ gg), iZ gg, ab (M_s_thrown m (iZ 0)) qq, ?_, ?_, Gst.r rfl (fun _ => WB.mk (GR.sm (G.th (iZ 0)) (sameM.ab _ _)))⟩
        · unfold fX5_strokeOf
          simp (disch := omega) only [f1, hst, f5, f8, li7, li8, Mzz, Mzz2, Mtt, Mtz, Mtl, Mtx, Sum.elim_inl, Sum.elim_inr, bi_tr, bi_fa, gd_true, gd_dec, lt_def, bind_s, isb_0, isb_1, iZ_add, iZ_sub, iZ_mul, iZ_neg, lZ_add, lZ_sub, lZ_mul, iZ_lt, iZ_le, iZ_eq, lZ_lt, lZ_le, lZ_eq, iZ_64, iZ_N, inb_Z, if_pos, if_neg, ↓reduceIte, Bool.true_eq_false, Bool.false_eq_true, li0, li1, li2, li3, li4, li5, li6, li9, li10, li16, li20, li23, li24, li25, li31, li33, li44, li48, li49, li50, li51, li57, li59, li60, li63, li69, li70, li71, li72, li74, li99, li100, li119, li126, li250, li296, li297, li298, li299, li300, li301, li302, li303, li606, li1515, li1818, li16384, li1048576, li2147483647, li10000, lj0, lj1, lj10000]
        · unfold fX6_strokeOf
          simp (disch := omega) only [f2, e3, e5, li7, li8, Mzz, Mzz2, Mtt, Mtz, Mtl, Mtx, Sum.elim_inl, Sum.elim_inr, bi_tr, bi_fa, gd_true, gd_dec, lt_def, bind_s, isb_0, isb_1, iZ_add, iZ_sub, iZ_mul, iZ_neg, lZ_add, lZ_sub, lZ_mul, iZ_lt, iZ_le, iZ_eq, lZ_lt, lZ_le, lZ_eq, iZ_64, iZ_N, inb_Z, if_pos, if_neg, ↓reduceIte, Bool.true_eq_false, Bool.false_eq_true, li0, li1, li2, li3, li4, li5, li6, li9, li10, li16, li20, li23, li24, li25, li31, li33, li44, li48, li49, li50, li51, li57, li59, li60, li63, li69, li70, li71, li72, li74, li99, li100, li119, li126, li250, li296, li297, li298, li299, li300, li301, li302, li303, li606, li1515, li1818, li16384, li1048576, li2147483647, li10000, lj0, lj1, lj10000]
      · obtain ⟨gg, pp, GS, f5⟩ := c_gs hm hc M
        obtain ⟨qq, e5⟩ := r_fs Rm1 hc M GS
        refine ⟨.inr (iZ pp), iZ pp, ab (M_s_thrown m (iZ 0)) qq, ?_, ?_, Gst.r rfl (fun _ => WB.mk (GR.sm (G.th (iZ 0)) (sameM.ab _ _)))⟩
        · unfold fX5_strokeOf
          simp (disch := omega) only [f1, hst, f5, li7, li8, Mzz, Mzz2, Mtt, Mtz, Mtl, Mtx, Sum.elim_inl, Sum.elim_inr, bi_tr, bi_fa, gd_true, gd_dec, lt_def, bind_s, isb_0, isb_1, iZ_add, iZ_sub, iZ_mul, iZ_neg, lZ_add, lZ_sub, lZ_mul, iZ_lt, iZ_le, iZ_eq, lZ_lt, lZ_le, lZ_eq, iZ_64, iZ_N, inb_Z, if_pos, if_neg, ↓reduceIte, Bool.true_eq_false, Bool.false_eq_true, li0, li1, li2, li3, li4, li5, li6, li9, li10, li16, li20, li23, li24, li25, li31, li33, li44, li48, li49, li50, li51, li57, li59, li60, li63, li69, li70, li71, li72, li74, li99, li100, li119, li126, li250, li296, li297, li298, li299, li300, li301, li302, li303, li606, li1515, li1818, li16384, li1048576, li2147483647, li10000, lj0, lj1, lj10000]
        · unfold fX6_strokeOf
          simp (disch := omega) only [f2, e3, e5, li7, li8, Mzz, Mzz2, Mtt, Mtz, Mtl, Mtx, Sum.elim_inl, Sum.elim_inr, bi_tr, bi_fa, gd_true, gd_dec, lt_def, bind_s, isb_0, isb_1, iZ_add, iZ_sub, iZ_mul, iZ_neg, lZ_add, lZ_sub, lZ_mul, iZ_lt, iZ_le, iZ_eq, lZ_lt, lZ_le, lZ_eq, iZ_64, iZ_N, inb_Z, if_pos, if_neg, ↓reduceIte, Bool.true_eq_false, Bool.false_eq_true, li0, li1, li2, li3, li4, li5, li6, li9, li10, li16, li20, li23, li24, li25, li31, li33, li44, li48, li49, li50, li51, li57, li59, li60, li63, li69, li70, li71, li72, li74, li99, li100, li119, li126, li250, li296, li297, li298, li299, li300, li301, li302, li303, li606, li1515, li1818, li16384, li1048576, li2147483647, li10000, lj0, lj1, lj10000]
      · obtain ⟨v1, v2, hl, hh, f5⟩ := c_spanX (K := K) hm hc (by omega)
        have e5 := r_spread Rm1 hc (by omega) (wh := 0) (by omega) (by omega) hl hh
        refine ⟨.inr (iZ (v2 - v1)), iZ (v2 - v1), M_s_thrown m (iZ 0), ?_, ?_, Gst.r rfl (fun _ => WB.mk G)⟩
        · unfold fX5_strokeOf
          simp (disch := omega) only [f1, hst, f5, li7, li8, Mzz, Mzz2, Mtt, Mtz, Mtl, Mtx, Sum.elim_inl, Sum.elim_inr, bi_tr, bi_fa, gd_true, gd_dec, lt_def, bind_s, isb_0, isb_1, iZ_add, iZ_sub, iZ_mul, iZ_neg, lZ_add, lZ_sub, lZ_mul, iZ_lt, iZ_le, iZ_eq, lZ_lt, lZ_le, lZ_eq, iZ_64, iZ_N, inb_Z, if_pos, if_neg, ↓reduceIte, Bool.true_eq_false, Bool.false_eq_true, li0, li1, li2, li3, li4, li5, li6, li9, li10, li16, li20, li23, li24, li25, li31, li33, li44, li48, li49, li50, li51, li57, li59, li60, li63, li69, li70, li71, li72, li74, li99, li100, li119, li126, li250, li296, li297, li298, li299, li300, li301, li302, li303, li606, li1515, li1818, li16384, li1048576, li2147483647, li10000, lj0, lj1, lj10000]
        · unfold fX6_strokeOf
          simp (disch := omega) only [f2, e3, e5, li7, li8, Mzz, Mzz2, Mtt, Mtz, Mtl, Mtx, Sum.elim_inl, Sum.elim_inr, bi_tr, bi_fa, gd_true, gd_dec, lt_def, bind_s, isb_0, isb_1, iZ_add, iZ_sub, iZ_mul, iZ_neg, lZ_add, lZ_sub, lZ_mul, iZ_lt, iZ_le, iZ_eq, lZ_lt, lZ_le, lZ_eq, iZ_64, iZ_N, inb_Z, if_pos, if_neg, ↓reduceIte, Bool.true_eq_false, Bool.false_eq_true, li0, li1, li2, li3, li4, li5, li6, li9, li10, li16, li20, li23, li24, li25, li31, li33, li44, li48, li49, li50, li51, li57, li59, li60, li63, li69, li70, li71, li72, li74, li99, li100, li119, li126, li250, li296, li297, li298, li299, li300, li301, li302, li303, li606, li1515, li1818, li16384, li1048576, li2147483647, li10000, lj0, lj1, lj10000]
      · obtain ⟨v1, v2, hl, hh, f5⟩ := c_spanY (K := K) hm hc (by omega)
        have e5 := r_spread Rm1 hc (by omega) (wh := 1) (by omega) (by omega) hl hh
        refine ⟨.inr (iZ (v2 - v1)), iZ (v2 - v1), M_s_thrown m (iZ 0), ?_, ?_, Gst.r rfl (fun _ => WB.mk G)⟩
        · unfold fX5_strokeOf
          simp (disch := omega) only [f1, hst, f5, li7, li8, Mzz, Mzz2, Mtt, Mtz, Mtl, Mtx, Sum.elim_inl, Sum.elim_inr, bi_tr, bi_fa, gd_true, gd_dec, lt_def, bind_s, isb_0, isb_1, iZ_add, iZ_sub, iZ_mul, iZ_neg, lZ_add, lZ_sub, lZ_mul, iZ_lt, iZ_le, iZ_eq, lZ_lt, lZ_le, lZ_eq, iZ_64, iZ_N, inb_Z, if_pos, if_neg, ↓reduceIte, Bool.true_eq_false, Bool.false_eq_true, li0, li1, li2, li3, li4, li5, li6, li9, li10, li16, li20, li23, li24, li25, li31, li33, li44, li48, li49, li50, li51, li57, li59, li60, li63, li69, li70, li71, li72, li74, li99, li100, li119, li126, li250, li296, li297, li298, li299, li300, li301, li302, li303, li606, li1515, li1818, li16384, li1048576, li2147483647, li10000, lj0, lj1, lj10000]
        · unfold fX6_strokeOf
          simp (disch := omega) only [f2, e3, e5, li7, li8, Mzz, Mzz2, Mtt, Mtz, Mtl, Mtx, Sum.elim_inl, Sum.elim_inr, bi_tr, bi_fa, gd_true, gd_dec, lt_def, bind_s, isb_0, isb_1, iZ_add, iZ_sub, iZ_mul, iZ_neg, lZ_add, lZ_sub, lZ_mul, iZ_lt, iZ_le, iZ_eq, lZ_lt, lZ_le, lZ_eq, iZ_64, iZ_N, inb_Z, if_pos, if_neg, ↓reduceIte, Bool.true_eq_false, Bool.false_eq_true, li0, li1, li2, li3, li4, li5, li6, li9, li10, li16, li20, li23, li24, li25, li31, li33, li44, li48, li49, li50, li51, li57, li59, li60, li63, li69, li70, li71, li72, li74, li99, li100, li119, li126, li250, li296, li297, li298, li299, li300, li301, li302, li303, li606, li1515, li1818, li16384, li1048576, li2147483647, li10000, lj0, lj1, lj10000]
      · obtain ⟨lim, f3, c1, c2⟩ := S.v3
        have f5 := c_joins hm hc M c2.1 c2.2
        have e5 := r_joins Rm1 hc M c1 c2.1 c2.2
        refine ⟨.inr (iZ (su (jnF N K lim) 1 (n - 1))), iZ (su (jnF N K lim) 1 (n - 1)), M_s_thrown m (iZ 0), ?_, ?_, Gst.r rfl (fun _ => WB.mk G)⟩
        · unfold fX5_strokeOf
          simp (disch := omega) only [f1, hst, f3, f5, li7, li8, Mzz, Mzz2, Mtt, Mtz, Mtl, Mtx, Sum.elim_inl, Sum.elim_inr, bi_tr, bi_fa, gd_true, gd_dec, lt_def, bind_s, isb_0, isb_1, iZ_add, iZ_sub, iZ_mul, iZ_neg, lZ_add, lZ_sub, lZ_mul, iZ_lt, iZ_le, iZ_eq, lZ_lt, lZ_le, lZ_eq, iZ_64, iZ_N, inb_Z, if_pos, if_neg, ↓reduceIte, Bool.true_eq_false, Bool.false_eq_true, li0, li1, li2, li3, li4, li5, li6, li9, li10, li16, li20, li23, li24, li25, li31, li33, li44, li48, li49, li50, li51, li57, li59, li60, li63, li69, li70, li71, li72, li74, li99, li100, li119, li126, li250, li296, li297, li298, li299, li300, li301, li302, li303, li606, li1515, li1818, li16384, li1048576, li2147483647, li10000, lj0, lj1, lj10000]
        · unfold fX6_strokeOf
          simp (disch := omega) only [f2, e3, e5, li7, li8, Mzz, Mzz2, Mtt, Mtz, Mtl, Mtx, Sum.elim_inl, Sum.elim_inr, bi_tr, bi_fa, gd_true, gd_dec, lt_def, bind_s, isb_0, isb_1, iZ_add, iZ_sub, iZ_mul, iZ_neg, lZ_add, lZ_sub, lZ_mul, iZ_lt, iZ_le, iZ_eq, lZ_lt, lZ_le, lZ_eq, iZ_64, iZ_N, inb_Z, if_pos, if_neg, ↓reduceIte, Bool.true_eq_false, Bool.false_eq_true, li0, li1, li2, li3, li4, li5, li6, li9, li10, li16, li20, li23, li24, li25, li31, li33, li44, li48, li49, li50, li51, li57, li59, li60, li63, li69, li70, li71, li72, li74, li99, li100, li119, li126, li250, li296, li297, li298, li299, li300, li301, li302, li303, li606, li1515, li1818, li16384, li1048576, li2147483647, li10000, lj0, lj1, lj10000]
      · have f3 : fX3_kept (q, iZ n, K) = some K := rfl
        refine ⟨.inr (K), K, M_s_thrown m (iZ 0), ?_, ?_, Gst.r rfl (fun _ => WB.mk G)⟩
        · unfold fX5_strokeOf
          simp (disch := omega) only [f1, hst, f3, li7, li8, Mzz, Mzz2, Mtt, Mtz, Mtl, Mtx, Sum.elim_inl, Sum.elim_inr, bi_tr, bi_fa, gd_true, gd_dec, lt_def, bind_s, isb_0, isb_1, iZ_add, iZ_sub, iZ_mul, iZ_neg, lZ_add, lZ_sub, lZ_mul, iZ_lt, iZ_le, iZ_eq, lZ_lt, lZ_le, lZ_eq, iZ_64, iZ_N, inb_Z, if_pos, if_neg, ↓reduceIte, Bool.true_eq_false, Bool.false_eq_true, li0, li1, li2, li3, li4, li5, li6, li9, li10, li16, li20, li23, li24, li25, li31, li33, li44, li48, li49, li50, li51, li57, li59, li60, li63, li69, li70, li71, li72, li74, li99, li100, li119, li126, li250, li296, li297, li298, li299, li300, li301, li302, li303, li606, li1515, li1818, li16384, li1048576, li2147483647, li10000, lj0, lj1, lj10000]
        · unfold fX6_strokeOf
          simp (disch := omega) only [f2, e3, f7, li7, li8, Mzz, Mzz2, Mtt, Mtz, Mtl, Mtx, Sum.elim_inl, Sum.elim_inr, bi_tr, bi_fa, gd_true, gd_dec, lt_def, bind_s, isb_0, isb_1, iZ_add, iZ_sub, iZ_mul, iZ_neg, lZ_add, lZ_sub, lZ_mul, iZ_lt, iZ_le, iZ_eq, lZ_lt, lZ_le, lZ_eq, iZ_64, iZ_N, inb_Z, if_pos, if_neg, ↓reduceIte, Bool.true_eq_false, Bool.false_eq_true, li0, li1, li2, li3, li4, li5, li6, li9, li10, li16, li20, li23, li24, li25, li31, li33, li44, li48, li49, li50, li51, li57, li59, li60, li63, li69, li70, li71, li72, li74, li99, li100, li119, li126, li250, li296, li297, li298, li299, li300, li301, li302, li303, li606, li1515, li1818, li16384, li1048576, li2147483647, li10000, lj0, lj1, lj10000]
    · have e3 := inN W (lo := 0) (hi := 10) (by omega) (by omega) hw
      obtain ⟨W0, W1⟩ := W
      refine ⟨.inl 1, iZ 0, M_s_thrown m (iZ 2), ?_, ?_, Gst.l 1 rfl rfl (fun _ => WB.mk G)⟩
      · unfold fX5_strokeOf
        simp (disch := omega) only [f1, hst, li7, li8, Mzz, Mzz2, Mtt, Mtz, Mtl, Mtx, Sum.elim_inl, Sum.elim_inr, bi_tr, bi_fa, gd_true, gd_dec, lt_def, bind_s, isb_0, isb_1, iZ_add, iZ_sub, iZ_mul, iZ_neg, lZ_add, lZ_sub, lZ_mul, iZ_lt, iZ_le, iZ_eq, lZ_lt, lZ_le, lZ_eq, iZ_64, iZ_N, inb_Z, if_pos, if_neg, ↓reduceIte, Bool.true_eq_false, Bool.false_eq_true, li0, li1, li2, li3, li4, li5, li6, li9, li10, li16, li20, li23, li24, li25, li31, li33, li44, li48, li49, li50, li51, li57, li59, li60, li63, li69, li70, li71, li72, li74, li99, li100, li119, li126, li250, li296, li297, li298, li299, li300, li301, li302, li303, li606, li1515, li1818, li16384, li1048576, li2147483647, li10000, lj0, lj1, lj10000]
      · unfold fX6_strokeOf
        simp (disch := omega) only [f2, e3, li7, li8, Mzz, Mzz2, Mtt, Mtz, Mtl, Mtx, Sum.elim_inl, Sum.elim_inr, bi_tr, bi_fa, gd_true, gd_dec, lt_def, bind_s, isb_0, isb_1, iZ_add, iZ_sub, iZ_mul, iZ_neg, lZ_add, lZ_sub, lZ_mul, iZ_lt, iZ_le, iZ_eq, lZ_lt, lZ_le, lZ_eq, iZ_64, iZ_N, inb_Z, if_pos, if_neg, ↓reduceIte, Bool.true_eq_false, Bool.false_eq_true, li0, li1, li2, li3, li4, li5, li6, li9, li10, li16, li20, li23, li24, li25, li31, li33, li44, li48, li49, li50, li51, li57, li59, li60, li63, li69, li70, li71, li72, li74, li99, li100, li119, li126, li250, li296, li297, li298, li299, li300, li301, li302, li303, li606, li1515, li1818, li16384, li1048576, li2147483647, li10000, lj0, lj1, lj10000]
  · have f1 := exN A S ha
    have f2 := isN A S ha
    refine ⟨.inl 0, iZ 0, M_s_thrown m (iZ 1), ?_, ?_, Gst.l 0 rfl rfl (fun _ => WB.mk G)⟩
    · unfold fX5_strokeOf
      simp (disch := omega) only [f1, li7, li8, Mzz, Mzz2, Mtt, Mtz, Mtl, Mtx, Sum.elim_inl, Sum.elim_inr, bi_tr, bi_fa, gd_true, gd_dec, lt_def, bind_s, isb_0, isb_1, iZ_add, iZ_sub, iZ_mul, iZ_neg, lZ_add, lZ_sub, lZ_mul, iZ_lt, iZ_le, iZ_eq, lZ_lt, lZ_le, lZ_eq, iZ_64, iZ_N, inb_Z, if_pos, if_neg, ↓reduceIte, Bool.true_eq_false, Bool.false_eq_true, li0, li1, li2, li3, li4, li5, li6, li9, li10, li16, li20, li23, li24, li25, li31, li33, li44, li48, li49, li50, li51, li57, li59, li60, li63, li69, li70, li71, li72, li74, li99, li100, li119, li126, li250, li296, li297, li298, li299, li300, li301, li302, li303, li606, li1515, li1818, li16384, li1048576, li2147483647, li10000, lj0, lj1, lj10000]
    · unfold fX6_strokeOf
      simp (disch := omega) only [f2, li7, li8, Mzz, Mzz2, Mtt, Mtz, Mtl, Mtx, Sum.elim_inl, Sum.elim_inr, bi_tr, bi_fa, gd_true, gd_dec, lt_def, bind_s, isb_0, isb_1, iZ_add, iZ_sub, iZ_mul, iZ_neg, lZ_add, lZ_sub, lZ_mul, iZ_lt, iZ_le, iZ_eq, lZ_lt, lZ_le, lZ_eq, iZ_64, iZ_N, inb_Z, if_pos, if_neg, ↓reduceIte, Bool.true_eq_false, Bool.false_eq_true, li0, li1, li2, li3, li4, li5, li6, li9, li10, li16, li20, li23, li24, li25, li31, li33, li44, li48, li49, li50, li51, li57, li59, li60, li63, li69, li70, li71, li72, li74, li99, li100, li119, li126, li250, li296, li297, li298, li299, li300, li301, li302, li303, li606, li1515, li1818, li16384, li1048576, li2147483647, li10000, lj0, lj1, lj10000]
-- counts
def szF (u : ShS) (s : Int) : Int := (S_size (Sh_st u s.toNat)).toInt
def kpF (u : ShS) (s : Int) : Int := su (onz (S_kept (Sh_st u s.toNat))) 0 24
theorem sz_b {sc : Int} (S : SR u (M_z m) sc) {s : Int} (s0 : 0 ≤ s) (s1 : s < sc) : (2 ≤ szF u s ∧ szF u s ≤ 24) ∧ (2 ≤ kpF u s ∧ kpF u s ≤ szF u s) ∧ ∃ (q : Nat → Int32) (K : Int32) (N : Int → Int), Sh_st u s.toNat = (q, iZ (szF u s), K) ∧ MK (szF u s) K ∧ kpF u s = su (onz K) 0 24 ∧ RMs m s (szF u s) N K ∧ Row q (szF u s) N ∧ Crd (szF u s) N := by
  obtain ⟨n, N, K, q, hst, hm, M, hc, Rm⟩ := S.rms s0 s1
  have hn := M.1
  have e1 : szF u s = n := by
    unfold szF
    rw [hst]
    exact iZ_T (by omega) (by omega)
  have e2 : kpF u s = su (onz K) 0 24 := by
    unfold kpF
    rw [hst]
  obtain ⟨k1, k2, k3⟩ := M.cnt
  rw [e1, e2]
  exact ⟨hn, ⟨by omega, by omega⟩, q, K, N, hst, M, rfl, Rm, hm, hc⟩
theorem c_allP {sc : Int} (S : SR u (M_z m) sc) : fX1_allPoints u = some (iZ (su (szF u) 0 sc)) := by
  have hsc := S.1
  have h2 := S.2.1
  have bd : ∀ k : Int, 0 ≤ k → k ≤ sc → 0 ≤ su (szF u) 0 k ∧ su (szF u) 0 k ≤ 24 * (k - 0) := fun k k0 k1 => su_bd (szF u) 24 k0 (fun i i0 i1 => by have := (sz_b S i0 (show i < sc by omega)).1; omega)
  have key := lp_fold (f := bX1_allPoints_4 u) (fun k => (iZ (su (szF u) 0 k), iZ k)) (i := 0) (n := sc) (r := iZ (su (szF u) 0 sc)) hsc.1 (fun k k0 k1 => by
    obtain ⟨h1, -, q, K, N, hst, -⟩ := sz_b S k0 k1
    have e1 := c_at (u := u) k0 (by omega)
    have b1 := bd k k0 (by omega)
    rw [su_s _ k0]
    simp (disch := omega) only [bX1_allPoints_4, h2, e1, fX3_size, hst, S_size, li7, li8, Mzz, Mzz2, Mtt, Mtz, Mtl, Mtx, Sum.elim_inl, Sum.elim_inr, bi_tr, bi_fa, gd_true, gd_dec, lt_def, bind_s, isb_0, isb_1, iZ_add, iZ_sub, iZ_mul, iZ_neg, lZ_add, lZ_sub, lZ_mul, iZ_lt, iZ_le, iZ_eq, lZ_lt, lZ_le, lZ_eq, iZ_64, iZ_N, inb_Z, if_pos, if_neg, ↓reduceIte, Bool.true_eq_false, Bool.false_eq_true, li0, li1, li2, li3, li4, li5, li6, li9, li10, li16, li20, li23, li24, li25, li31, li33, li44, li48, li49, li50, li51, li57, li59, li60, li63, li69, li70, li71, li72, li74, li99, li100, li119, li126, li250, li296, li297, li298, li299, li300, li301, li302, li303, li606, li1515, li1818, li16384, li1048576, li2147483647, li10000, lj0, lj1, lj10000]) (by
    simp (disch := omega) only [bX1_allPoints_4, h2, li7, li8, Mzz, Mzz2, Mtt, Mtz, Mtl, Mtx, Sum.elim_inl, Sum.elim_inr, bi_tr, bi_fa, gd_true, gd_dec, lt_def, bind_s, isb_0, isb_1, iZ_add, iZ_sub, iZ_mul, iZ_neg, lZ_add, lZ_sub, lZ_mul, iZ_lt, iZ_le, iZ_eq, lZ_lt, lZ_le, lZ_eq, iZ_64, iZ_N, inb_Z, if_pos, if_neg, ↓reduceIte, Bool.true_eq_false, Bool.false_eq_true, li0, li1, li2, li3, li4, li5, li6, li9, li10, li16, li20, li23, li24, li25, li31, li33, li44, li48, li49, li50, li51, li57, li59, li60, li63, li69, li70, li71, li72, li74, li99, li100, li119, li126, li250, li296, li297, li298, li299, li300, li301, li302, li303, li606, li1515, li1818, li16384, li1048576, li2147483647, li10000, lj0, lj1, lj10000])
  rw [su_0] at key
  unfold fX1_allPoints lX1_allPoints_4
  rw [show ((0 : Int32), (0 : Int32)) = (iZ 0, iZ 0) from rfl, key]
  rfl
theorem r_allP {sc : Int} (S : SR u (M_z m) sc) : fX6_allPoints m = some (iZ (su (szF u) 0 sc)) := by
  have hsc := S.1
  have h2 := S.2.2.1
  have key := lp_fold (f := bX6_allPoints_4 m) (fun k => (iZ (su (szF u) 0 k), iZ k)) (i := 0) (n := sc) (r := iZ (su (szF u) 0 sc)) hsc.1 (fun k k0 k1 => by
    obtain ⟨h1, -, q, K, N, hst, -, -, Rm, -⟩ := sz_b S k0 k1
    have e1 := r_pts Rm
    rw [su_s _ k0]
    simp (disch := omega) only [bX6_allPoints_4, h2, e1, li7, li8, Mzz, Mzz2, Mtt, Mtz, Mtl, Mtx, Sum.elim_inl, Sum.elim_inr, bi_tr, bi_fa, gd_true, gd_dec, lt_def, bind_s, isb_0, isb_1, iZ_add, iZ_sub, iZ_mul, iZ_neg, lZ_add, lZ_sub, lZ_mul, iZ_lt, iZ_le, iZ_eq, lZ_lt, lZ_le, lZ_eq, iZ_64, iZ_N, inb_Z, if_pos, if_neg, ↓reduceIte, Bool.true_eq_false, Bool.false_eq_true, li0, li1, li2, li3, li4, li5, li6, li9, li10, li16, li20, li23, li24, li25, li31, li33, li44, li48, li49, li50, li51, li57, li59, li60, li63, li69, li70, li71, li72, li74, li99, li100, li119, li126, li250, li296, li297, li298, li299, li300, li301, li302, li303, li606, li1515, li1818, li16384, li1048576, li2147483647, li10000, lj0, lj1, lj10000]) (by
    simp (disch := omega) only [bX6_allPoints_4, h2, li7, li8, Mzz, Mzz2, Mtt, Mtz, Mtl, Mtx, Sum.elim_inl, Sum.elim_inr, bi_tr, bi_fa, gd_true, gd_dec, lt_def, bind_s, isb_0, isb_1, iZ_add, iZ_sub, iZ_mul, iZ_neg, lZ_add, lZ_sub, lZ_mul, iZ_lt, iZ_le, iZ_eq, lZ_lt, lZ_le, lZ_eq, iZ_64, iZ_N, inb_Z, if_pos, if_neg, ↓reduceIte, Bool.true_eq_false, Bool.false_eq_true, li0, li1, li2, li3, li4, li5, li6, li9, li10, li16, li20, li23, li24, li25, li31, li33, li44, li48, li49, li50, li51, li57, li59, li60, li63, li69, li70, li71, li72, li74, li99, li100, li119, li126, li250, li296, li297, li298, li299, li300, li301, li302, li303, li606, li1515, li1818, li16384, li1048576, li2147483647, li10000, lj0, lj1, lj10000])
  rw [su_0] at key
  unfold fX6_allPoints lX6_allPoints_4
  rw [show ((0 : Int32), (0 : Int32)) = (iZ 0, iZ 0) from rfl, key]
  rfl
theorem c_allK {sc : Int} (S : SR u (M_z m) sc) : fX1_allKept u = some (iZ (su (kpF u) 0 sc)) := by
  have hsc := S.1
  have h2 := S.2.1
  have key := lp_fold (f := bX1_allKept_4 u) (fun k => (iZ (su (kpF u) 0 k), iZ k)) (i := 0) (n := sc) (r := iZ (su (kpF u) 0 sc)) hsc.1 (fun k k0 k1 => by
    obtain ⟨h1, -, q, K, N, hst, MM, ek, -⟩ := sz_b S k0 k1
    have e1 := c_at (u := u) k0 (by omega)
    have e2 := MM.ones.1
    rw [← ek] at e2
    rw [su_s _ k0]
    simp (disch := omega) only [bX1_allKept_4, h2, e1, fX3_keptCount, hst, S_kept, e2, li7, li8, Mzz, Mzz2, Mtt, Mtz, Mtl, Mtx, Sum.elim_inl, Sum.elim_inr, bi_tr, bi_fa, gd_true, gd_dec, lt_def, bind_s, isb_0, isb_1, iZ_add, iZ_sub, iZ_mul, iZ_neg, lZ_add, lZ_sub, lZ_mul, iZ_lt, iZ_le, iZ_eq, lZ_lt, lZ_le, lZ_eq, iZ_64, iZ_N, inb_Z, if_pos, if_neg, ↓reduceIte, Bool.true_eq_false, Bool.false_eq_true, li0, li1, li2, li3, li4, li5, li6, li9, li10, li16, li20, li23, li24, li25, li31, li33, li44, li48, li49, li50, li51, li57, li59, li60, li63, li69, li70, li71, li72, li74, li99, li100, li119, li126, li250, li296, li297, li298, li299, li300, li301, li302, li303, li606, li1515, li1818, li16384, li1048576, li2147483647, li10000, lj0, lj1, lj10000]) (by
    simp (disch := omega) only [bX1_allKept_4, h2, li7, li8, Mzz, Mzz2, Mtt, Mtz, Mtl, Mtx, Sum.elim_inl, Sum.elim_inr, bi_tr, bi_fa, gd_true, gd_dec, lt_def, bind_s, isb_0, isb_1, iZ_add, iZ_sub, iZ_mul, iZ_neg, lZ_add, lZ_sub, lZ_mul, iZ_lt, iZ_le, iZ_eq, lZ_lt, lZ_le, lZ_eq, iZ_64, iZ_N, inb_Z, if_pos, if_neg, ↓reduceIte, Bool.true_eq_false, Bool.false_eq_true, li0, li1, li2, li3, li4, li5, li6, li9, li10, li16, li20, li23, li24, li25, li31, li33, li44, li48, li49, li50, li51, li57, li59, li60, li63, li69, li70, li71, li72, li74, li99, li100, li119, li126, li250, li296, li297, li298, li299, li300, li301, li302, li303, li606, li1515, li1818, li16384, li1048576, li2147483647, li10000, lj0, lj1, lj10000])
  rw [su_0] at key
  unfold fX1_allKept lX1_allKept_4
  rw [show ((0 : Int32), (0 : Int32)) = (iZ 0, iZ 0) from rfl, key]
  rfl
theorem r_allK {sc : Int} (S : SR u (M_z m) sc) : fX6_allKept m = some (iZ (su (kpF u) 0 sc)) := by
  have hsc := S.1
  have h2 := S.2.2.1
  have key := lp_fold (f := bX6_allKept_4 m) (fun k => (iZ (su (kpF u) 0 k), iZ k)) (i := 0) (n := sc) (r := iZ (su (kpF u) 0 sc)) hsc.1 (fun k k0 k1 => by
    obtain ⟨h1, -, q, K, N, hst, MM, ek, Rm, -⟩ := sz_b S k0 k1
    have e1 := r_kept Rm
    have e2 := r_ones K
    rw [← ek] at e2
    rw [su_s _ k0]
    simp (disch := omega) only [bX6_allKept_4, h2, e1, e2, li7, li8, Mzz, Mzz2, Mtt, Mtz, Mtl, Mtx, Sum.elim_inl, Sum.elim_inr, bi_tr, bi_fa, gd_true, gd_dec, lt_def, bind_s, isb_0, isb_1, iZ_add, iZ_sub, iZ_mul, iZ_neg, lZ_add, lZ_sub, lZ_mul, iZ_lt, iZ_le, iZ_eq, lZ_lt, lZ_le, lZ_eq, iZ_64, iZ_N, inb_Z, if_pos, if_neg, ↓reduceIte, Bool.true_eq_false, Bool.false_eq_true, li0, li1, li2, li3, li4, li5, li6, li9, li10, li16, li20, li23, li24, li25, li31, li33, li44, li48, li49, li50, li51, li57, li59, li60, li63, li69, li70, li71, li72, li74, li99, li100, li119, li126, li250, li296, li297, li298, li299, li300, li301, li302, li303, li606, li1515, li1818, li16384, li1048576, li2147483647, li10000, lj0, lj1, lj10000]) (by
    simp (disch := omega) only [bX6_allKept_4, h2, li7, li8, Mzz, Mzz2, Mtt, Mtz, Mtl, Mtx, Sum.elim_inl, Sum.elim_inr, bi_tr, bi_fa, gd_true, gd_dec, lt_def, bind_s, isb_0, isb_1, iZ_add, iZ_sub, iZ_mul, iZ_neg, lZ_add, lZ_sub, lZ_mul, iZ_lt, iZ_le, iZ_eq, lZ_lt, lZ_le, lZ_eq, iZ_64, iZ_N, inb_Z, if_pos, if_neg, ↓reduceIte, Bool.true_eq_false, Bool.false_eq_true, li0, li1, li2, li3, li4, li5, li6, li9, li10, li16, li20, li23, li24, li25, li31, li33, li44, li48, li49, li50, li51, li57, li59, li60, li63, li69, li70, li71, li72, li74, li99, li100, li119, li126, li250, li296, li297, li298, li299, li300, li301, li302, li303, li606, li1515, li1818, li16384, li1048576, li2147483647, li10000, lj0, lj1, lj10000])
  rw [su_0] at key
  unfold fX6_allKept lX6_allKept_4
  rw [show ((0 : Int32), (0 : Int32)) = (iZ 0, iZ 0) from rfl, key]
  rfl
theorem g_count (G : GR u ts hs ns m) (p1 : Int32) : ∃ (o : Nat ⊕ Int32) (b : Int32) (m' : MS), fX5_count p1 u ts bs hs = some o ∧ fX6_count p1 m = some (b, m') ∧ Gst g [1] D (obX5_count g D R u ts bs ps hs ns o) b m' := by
  obtain ⟨w, rfl, W⟩ := iZ_B p1
  obtain ⟨⟨sc, S⟩, ⟨c, hc1, hc2⟩, -, T9⟩ := id G
  have S1 : SR u (M_z (M_s_thrown m (iZ 0))) sc := S
  have hsc := S.1
  have h1 := S.2.1
  have h2 : M_z m (296 : Int).toNat = iZ sc := S.2.2.1
  by_cases hw : 0 ≤ w ∧ w ≤ 6
  · have e3 := inY W (lo := 0) (hi := 6) (by omega) (by omega) hw
    have hcs : w = 0 ∨ w = 1 ∨ w = 2 ∨ w = 3 ∨ w = 4 ∨ w = 5 ∨ w = 6 := by omega
    rcases hcs with rfl | rfl | rfl | rfl | rfl | rfl | rfl
    · refine ⟨.inr (iZ sc), iZ sc, M_s_thrown m (iZ 0), ?_, ?_, Gst.r rfl (fun _ => WB.mk G)⟩
      · unfold fX5_count fX1_strokeCount
        simp (disch := omega) only [h1, li7, li8, Mzz, Mzz2, Mtt, Mtz, Mtl, Mtx, Sum.elim_inl, Sum.elim_inr, bi_tr, bi_fa, gd_true, gd_dec, lt_def, bind_s, isb_0, isb_1, iZ_add, iZ_sub, iZ_mul, iZ_neg, lZ_add, lZ_sub, lZ_mul, iZ_lt, iZ_le, iZ_eq, lZ_lt, lZ_le, lZ_eq, iZ_64, iZ_N, inb_Z, if_pos, if_neg, ↓reduceIte, Bool.true_eq_false, Bool.false_eq_true, li0, li1, li2, li3, li4, li5, li6, li9, li10, li16, li20, li23, li24, li25, li31, li33, li44, li48, li49, li50, li51, li57, li59, li60, li63, li69, li70, li71, li72, li74, li99, li100, li119, li126, li250, li296, li297, li298, li299, li300, li301, li302, li303, li606, li1515, li1818, li16384, li1048576, li2147483647, li10000, lj0, lj1, lj10000]
      · unfold fX6_count
        simp (disch := omega) only [e3, h2, li7, li8, Mzz, Mzz2, Mtt, Mtz, Mtl, Mtx, Sum.elim_inl, Sum.elim_inr, bi_tr, bi_fa, gd_true, gd_dec, lt_def, bind_s, isb_0, isb_1, iZ_add, iZ_sub, iZ_mul, iZ_neg, lZ_add, lZ_sub, lZ_mul, iZ_lt, iZ_le, iZ_eq, lZ_lt, lZ_le, lZ_eq, iZ_64, iZ_N, inb_Z, if_pos, if_neg, ↓reduceIte, Bool.true_eq_false, Bool.false_eq_true, li0, li1, li2, li3, li4, li5, li6, li9, li10, li16, li20, li23, li24, li25, li31, li33, li44, li48, li49, li50, li51, li57, li59, li60, li63, li69, li70, li71, li72, li74, li99, li100, li119, li126, li250, li296, li297, li298, li299, li300, li301, li302, li303, li606, li1515, li1818, li16384, li1048576, li2147483647, li10000, lj0, lj1, lj10000]
    · have f1 := c_allP S
      have f2 := r_allP S1
      refine ⟨.inr (iZ (su (szF u) 0 sc)), iZ (su (szF u) 0 sc), M_s_thrown m (iZ 0), ?_, ?_, Gst.r rfl (fun _ => WB.mk G)⟩
      · unfold fX5_count
        simp (disch := omega) only [f1, li7, li8, Mzz, Mzz2, Mtt, Mtz, Mtl, Mtx, Sum.elim_inl, Sum.elim_inr, bi_tr, bi_fa, gd_true, gd_dec, lt_def, bind_s, isb_0, isb_1, iZ_add, iZ_sub, iZ_mul, iZ_neg, lZ_add, lZ_sub, lZ_mul, iZ_lt, iZ_le, iZ_eq, lZ_lt, lZ_le, lZ_eq, iZ_64, iZ_N, inb_Z, if_pos, if_neg, ↓reduceIte, Bool.true_eq_false, Bool.false_eq_true, li0, li1, li2, li3, li4, li5, li6, li9, li10, li16, li20, li23, li24, li25, li31, li33, li44, li48, li49, li50, li51, li57, li59, li60, li63, li69, li70, li71, li72, li74, li99, li100, li119, li126, li250, li296, li297, li298, li299, li300, li301, li302, li303, li606, li1515, li1818, li16384, li1048576, li2147483647, li10000, lj0, lj1, lj10000]
      · unfold fX6_count
        simp (disch := omega) only [e3, f2, li7, li8, Mzz, Mzz2, Mtt, Mtz, Mtl, Mtx, Sum.elim_inl, Sum.elim_inr, bi_tr, bi_fa, gd_true, gd_dec, lt_def, bind_s, isb_0, isb_1, iZ_add, iZ_sub, iZ_mul, iZ_neg, lZ_add, lZ_sub, lZ_mul, iZ_lt, iZ_le, iZ_eq, lZ_lt, lZ_le, lZ_eq, iZ_64, iZ_N, inb_Z, if_pos, if_neg, ↓reduceIte, Bool.true_eq_false, Bool.false_eq_true, li0, li1, li2, li3, li4, li5, li6, li9, li10, li16, li20, li23, li24, li25, li31, li33, li44, li48, li49, li50, li51, li57, li59, li60, li63, li69, li70, li71, li72, li74, li99, li100, li119, li126, li250, li296, li297, li298, li299, li300, li301, li302, li303, li606, li1515, li1818, li16384, li1048576, li2147483647, li10000, lj0, lj1, lj10000]
    · have f1 := c_allK S
      have f2 := r_allK S1
      refine ⟨.inr (iZ (su (kpF u) 0 sc)), iZ (su (kpF u) 0 sc), M_s_thrown m (iZ 0), ?_, ?_, Gst.r rfl (fun _ => WB.mk G)⟩
      · unfold fX5_count
        simp (disch := omega) only [f1, li7, li8, Mzz, Mzz2, Mtt, Mtz, Mtl, Mtx, Sum.elim_inl, Sum.elim_inr, bi_tr, bi_fa, gd_true, gd_dec, lt_def, bind_s, isb_0, isb_1, iZ_add, iZ_sub, iZ_mul, iZ_neg, lZ_add, lZ_sub, lZ_mul, iZ_lt, iZ_le, iZ_eq, lZ_lt, lZ_le, lZ_eq, iZ_64, iZ_N, inb_Z, if_pos, if_neg, ↓reduceIte, Bool.true_eq_false, Bool.false_eq_true, li0, li1, li2, li3, li4, li5, li6, li9, li10, li16, li20, li23, li24, li25, li31, li33, li44, li48, li49, li50, li51, li57, li59, li60, li63, li69, li70, li71, li72, li74, li99, li100, li119, li126, li250, li296, li297, li298, li299, li300, li301, li302, li303, li606, li1515, li1818, li16384, li1048576, li2147483647, li10000, lj0, lj1, lj10000]
      · unfold fX6_count
        simp (disch := omega) only [e3, f2, li7, li8, Mzz, Mzz2, Mtt, Mtz, Mtl, Mtx, Sum.elim_inl, Sum.elim_inr, bi_tr, bi_fa, gd_true, gd_dec, lt_def, bind_s, isb_0, isb_1, iZ_add, iZ_sub, iZ_mul, iZ_neg, lZ_add, lZ_sub, lZ_mul, iZ_lt, iZ_le, iZ_eq, lZ_lt, lZ_le, lZ_eq, iZ_64, iZ_N, inb_Z, if_pos, if_neg, ↓reduceIte, Bool.true_eq_false, Bool.false_eq_true, li0, li1, li2, li3, li4, li5, li6, li9, li10, li16, li20, li23, li24, li25, li31, li33, li44, li48, li49, li50, li51, li57, li59, li60, li63, li69, li70, li71, li72, li74, li99, li100, li119, li126, li250, li296, li297, li298, li299, li300, li301, li302, li303, li606, li1515, li1818, li16384, li1048576, li2147483647, li10000, lj0, lj1, lj10000]
    · have f1 : Sh_simplified u = M_z m (301 : Int).toNat := S.2.2.2.2.2.1
      refine ⟨.inr (M_z m (301 : Int).toNat), M_z m (301 : Int).toNat, M_s_thrown m (iZ 0), ?_, ?_, Gst.r rfl (fun _ => WB.mk G)⟩
      · unfold fX5_count fX1_simplified
        simp (disch := omega) only [f1, li7, li8, Mzz, Mzz2, Mtt, Mtz, Mtl, Mtx, Sum.elim_inl, Sum.elim_inr, bi_tr, bi_fa, gd_true, gd_dec, lt_def, bind_s, isb_0, isb_1, iZ_add, iZ_sub, iZ_mul, iZ_neg, lZ_add, lZ_sub, lZ_mul, iZ_lt, iZ_le, iZ_eq, lZ_lt, lZ_le, lZ_eq, iZ_64, iZ_N, inb_Z, if_pos, if_neg, ↓reduceIte, Bool.true_eq_false, Bool.false_eq_true, li0, li1, li2, li3, li4, li5, li6, li9, li10, li16, li20, li23, li24, li25, li31, li33, li44, li48, li49, li50, li51, li57, li59, li60, li63, li69, li70, li71, li72, li74, li99, li100, li119, li126, li250, li296, li297, li298, li299, li300, li301, li302, li303, li606, li1515, li1818, li16384, li1048576, li2147483647, li10000, lj0, lj1, lj10000]
      · unfold fX6_count
        simp (disch := omega) only [e3, li7, li8, Mzz, Mzz2, Mtt, Mtz, Mtl, Mtx, Sum.elim_inl, Sum.elim_inr, bi_tr, bi_fa, gd_true, gd_dec, lt_def, bind_s, isb_0, isb_1, iZ_add, iZ_sub, iZ_mul, iZ_neg, lZ_add, lZ_sub, lZ_mul, iZ_lt, iZ_le, iZ_eq, lZ_lt, lZ_le, lZ_eq, iZ_64, iZ_N, inb_Z, if_pos, if_neg, ↓reduceIte, Bool.true_eq_false, Bool.false_eq_true, li0, li1, li2, li3, li4, li5, li6, li9, li10, li16, li20, li23, li24, li25, li31, li33, li44, li48, li49, li50, li51, li57, li59, li60, li63, li69, li70, li71, li72, li74, li99, li100, li119, li126, li250, li296, li297, li298, li299, li300, li301, li302, li303, li606, li1515, li1818, li16384, li1048576, li2147483647, li10000, lj0, lj1, lj10000]
    · have f1 : Sh_dropped u = M_z m (302 : Int).toNat := S.2.2.2.2.2.2
      refine ⟨.inr (M_z m (302 : Int).toNat), M_z m (302 : Int).toNat, M_s_thrown m (iZ 0), ?_, ?_, Gst.r rfl (fun _ => WB.mk G)⟩
      · unfold fX5_count fX1_dropped
        simp (disch := omega) only [f1, li7, li8, Mzz, Mzz2, Mtt, Mtz, Mtl, Mtx, Sum.elim_inl, Sum.elim_inr, bi_tr, bi_fa, gd_true, gd_dec, lt_def, bind_s, isb_0, isb_1, iZ_add, iZ_sub, iZ_mul, iZ_neg, lZ_add, lZ_sub, lZ_mul, iZ_lt, iZ_le, iZ_eq, lZ_lt, lZ_le, lZ_eq, iZ_64, iZ_N, inb_Z, if_pos, if_neg, ↓reduceIte, Bool.true_eq_false, Bool.false_eq_true, li0, li1, li2, li3, li4, li5, li6, li9, li10, li16, li20, li23, li24, li25, li31, li33, li44, li48, li49, li50, li51, li57, li59, li60, li63, li69, li70, li71, li72, li74, li99, li100, li119, li126, li250, li296, li297, li298, li299, li300, li301, li302, li303, li606, li1515, li1818, li16384, li1048576, li2147483647, li10000, lj0, lj1, lj10000]
      · unfold fX6_count
        simp (disch := omega) only [e3, li7, li8, Mzz, Mzz2, Mtt, Mtz, Mtl, Mtx, Sum.elim_inl, Sum.elim_inr, bi_tr, bi_fa, gd_true, gd_dec, lt_def, bind_s, isb_0, isb_1, iZ_add, iZ_sub, iZ_mul, iZ_neg, lZ_add, lZ_sub, lZ_mul, iZ_lt, iZ_le, iZ_eq, lZ_lt, lZ_le, lZ_eq, iZ_64, iZ_N, inb_Z, if_pos, if_neg, ↓reduceIte, Bool.true_eq_false, Bool.false_eq_true, li0, li1, li2, li3, li4, li5, li6, li9, li10, li16, li20, li23, li24, li25, li31, li33, li44, li48, li49, li50, li51, li57, li59, li60, li63, li69, li70, li71, li72, li74, li99, li100, li119, li126, li250, li296, li297, li298, li299, li300, li301, li302, li303, li606, li1515, li1818, li16384, li1048576, li2147483647, li10000, lj0, lj1, lj10000]
    · obtain ⟨o9, -, -, -, f1, -⟩ := hc2
      have f2 : M_saves (M_s_thrown m (iZ 0)) = iZ c := hc1
      refine ⟨.inr (iZ c), iZ c, M_s_thrown m (iZ 0), ?_, ?_, Gst.r rfl (fun _ => WB.mk G)⟩
      · unfold fX5_count fX0_size
        simp (disch := omega) only [f1, li7, li8, Mzz, Mzz2, Mtt, Mtz, Mtl, Mtx, Sum.elim_inl, Sum.elim_inr, bi_tr, bi_fa, gd_true, gd_dec, lt_def, bind_s, isb_0, isb_1, iZ_add, iZ_sub, iZ_mul, iZ_neg, lZ_add, lZ_sub, lZ_mul, iZ_lt, iZ_le, iZ_eq, lZ_lt, lZ_le, lZ_eq, iZ_64, iZ_N, inb_Z, if_pos, if_neg, ↓reduceIte, Bool.true_eq_false, Bool.false_eq_true, li0, li1, li2, li3, li4, li5, li6, li9, li10, li16, li20, li23, li24, li25, li31, li33, li44, li48, li49, li50, li51, li57, li59, li60, li63, li69, li70, li71, li72, li74, li99, li100, li119, li126, li250, li296, li297, li298, li299, li300, li301, li302, li303, li606, li1515, li1818, li16384, li1048576, li2147483647, li10000, lj0, lj1, lj10000]
      · unfold fX6_count
        simp (disch := omega) only [e3, f2, li7, li8, Mzz, Mzz2, Mtt, Mtz, Mtl, Mtx, Sum.elim_inl, Sum.elim_inr, bi_tr, bi_fa, gd_true, gd_dec, lt_def, bind_s, isb_0, isb_1, iZ_add, iZ_sub, iZ_mul, iZ_neg, lZ_add, lZ_sub, lZ_mul, iZ_lt, iZ_le, iZ_eq, lZ_lt, lZ_le, lZ_eq, iZ_64, iZ_N, inb_Z, if_pos, if_neg, ↓reduceIte, Bool.true_eq_false, Bool.false_eq_true, li0, li1, li2, li3, li4, li5, li6, li9, li10, li16, li20, li23, li24, li25, li31, li33, li44, li48, li49, li50, li51, li57, li59, li60, li63, li69, li70, li71, li72, li74, li99, li100, li119, li126, li250, li296, li297, li298, li299, li300, li301, li302, li303, li606, li1515, li1818, li16384, li1048576, li2147483647, li10000, lj0, lj1, lj10000]
    · obtain ⟨L, tx, hL, f1, f2, -⟩ := T9
      have f2 : M_length (M_s_thrown m (iZ 0)) = iZ L := f2
      refine ⟨.inr (iZ L), iZ L, M_s_thrown m (iZ 0), ?_, ?_, Gst.r rfl (fun _ => WB.mk G)⟩
      · unfold fX5_count fX4_length
        simp (disch := omega) only [f1, li7, li8, Mzz, Mzz2, Mtt, Mtz, Mtl, Mtx, Sum.elim_inl, Sum.elim_inr, bi_tr, bi_fa, gd_true, gd_dec, lt_def, bind_s, isb_0, isb_1, iZ_add, iZ_sub, iZ_mul, iZ_neg, lZ_add, lZ_sub, lZ_mul, iZ_lt, iZ_le, iZ_eq, lZ_lt, lZ_le, lZ_eq, iZ_64, iZ_N, inb_Z, if_pos, if_neg, ↓reduceIte, Bool.true_eq_false, Bool.false_eq_true, li0, li1, li2, li3, li4, li5, li6, li9, li10, li16, li20, li23, li24, li25, li31, li33, li44, li48, li49, li50, li51, li57, li59, li60, li63, li69, li70, li71, li72, li74, li99, li100, li119, li126, li250, li296, li297, li298, li299, li300, li301, li302, li303, li606, li1515, li1818, li16384, li1048576, li2147483647, li10000, lj0, lj1, lj10000]
      · unfold fX6_count
        simp (disch := omega) only [e3, f2, li7, li8, Mzz, Mzz2, Mtt, Mtz, Mtl, Mtx, Sum.elim_inl, Sum.elim_inr, bi_tr, bi_fa, gd_true, gd_dec, lt_def, bind_s, isb_0, isb_1, iZ_add, iZ_sub, iZ_mul, iZ_neg, lZ_add, lZ_sub, lZ_mul, iZ_lt, iZ_le, iZ_eq, lZ_lt, lZ_le, lZ_eq, iZ_64, iZ_N, inb_Z, if_pos, if_neg, ↓reduceIte, Bool.true_eq_false, Bool.false_eq_true, li0, li1, li2, li3, li4, li5, li6, li9, li10, li16, li20, li23, li24, li25, li31, li33, li44, li48, li49, li50, li51, li57, li59, li60, li63, li69, li70, li71, li72, li74, li99, li100, li119, li126, li250, li296, li297, li298, li299, li300, li301, li302, li303, li606, li1515, li1818, li16384, li1048576, li2147483647, li10000, lj0, lj1, lj10000]
  · have e3 := inN W (lo := 0) (hi := 6) (by omega) (by omega) hw
    obtain ⟨W0, W1⟩ := W
    refine ⟨.inl 1, iZ 0, M_s_thrown m (iZ 1), ?_, ?_, Gst.l 0 rfl rfl (fun _ => WB.mk G)⟩
    · unfold fX5_count
      simp (disch := omega) only [li7, li8, Mzz, Mzz2, Mtt, Mtz, Mtl, Mtx, Sum.elim_inl, Sum.elim_inr, bi_tr, bi_fa, gd_true, gd_dec, lt_def, bind_s, isb_0, isb_1, iZ_add, iZ_sub, iZ_mul, iZ_neg, lZ_add, lZ_sub, lZ_mul, iZ_lt, iZ_le, iZ_eq, lZ_lt, lZ_le, lZ_eq, iZ_64, iZ_N, inb_Z, if_pos, if_neg, ↓reduceIte, Bool.true_eq_false, Bool.false_eq_true, li0, li1, li2, li3, li4, li5, li6, li9, li10, li16, li20, li23, li24, li25, li31, li33, li44, li48, li49, li50, li51, li57, li59, li60, li63, li69, li70, li71, li72, li74, li99, li100, li119, li126, li250, li296, li297, li298, li299, li300, li301, li302, li303, li606, li1515, li1818, li16384, li1048576, li2147483647, li10000, lj0, lj1, lj10000]
    · unfold fX6_count
      simp (disch := omega) only [e3, li7, li8, Mzz, Mzz2, Mtt, Mtz, Mtl, Mtx, Sum.elim_inl, Sum.elim_inr, bi_tr, bi_fa, gd_true, gd_dec, lt_def, bind_s, isb_0, isb_1, iZ_add, iZ_sub, iZ_mul, iZ_neg, lZ_add, lZ_sub, lZ_mul, iZ_lt, iZ_le, iZ_eq, lZ_lt, lZ_le, lZ_eq, iZ_64, iZ_N, inb_Z, if_pos, if_neg, ↓reduceIte, Bool.true_eq_false, Bool.false_eq_true, li0, li1, li2, li3, li4, li5, li6, li9, li10, li16, li20, li23, li24, li25, li31, li33, li44, li48, li49, li50, li51, li57, li59, li60, li63, li69, li70, li71, li72, li74, li99, li100, li119, li126, li250, li296, li297, li298, li299, li300, li301, li302, li303, li606, li1515, li1818, li16384, li1048576, li2147483647, li10000, lj0, lj1, lj10000]
-- the nearest point
def sqP (u : ShS) (x y s k : Int) : Int := ((S_numbers (Sh_st u s.toNat) (3 * k).toNat).toInt - x) * ((S_numbers (Sh_st u s.toNat) (3 * k).toNat).toInt - x) + ((S_numbers (Sh_st u s.toNat) (3 * k + 1).toNat).toInt - y) * ((S_numbers (Sh_st u s.toNat) (3 * k + 1).toNat).toInt - y)
def nrS (sq : Int → Int) (s : Int) (st : Int × Int) : Nat → Int × Int
  | 0 => st
  | k + 1 => if (nrS sq s st k).1 < 0 then (100 * s + k, sq k) else if (nrS sq s st k).2 ≤ sq k then nrS sq s st k else (100 * s + k, sq k)
def nrO (sq : Int → Int → Int) (nn : Int → Int) : Nat → Int × Int
  | 0 => (-1, 0)
  | s + 1 => nrS (sq s) s (nrO sq nn s) (nn s).toNat
def nrB (p : Int × Int) : Prop := (-1 ≤ p.1 ∧ p.1 ≤ 400) ∧ 0 ≤ p.2 ∧ p.2 ≤ 19602
theorem sqP_b {sc x y : Int} (hx : inP x y) (S : SR u (M_z m) sc) {s k : Int} (s0 : 0 ≤ s) (s1 : s < sc) (k0 : 0 ≤ k) (k1 : k < szF u s) : (0 ≤ sqP u x y s k ∧ sqP u x y s k ≤ 19602) ∧ fX3_squareTo (iZ k) (iZ x) (iZ y) (Sh_st u s.toNat) = some (iZ (sqP u x y s k)) ∧ ∃ ax ay : Int, (0 ≤ ax ∧ ax ≤ 99) ∧ (0 ≤ ay ∧ ay ≤ 99) ∧ fX6_of (iZ s) (iZ k) 0 m = some (iZ ax) ∧ fX6_of (iZ s) (iZ k) 1 m = some (iZ ay) ∧ sqP u x y s k = (ax - x) * (ax - x) + (ay - y) * (ay - y) := by
  obtain ⟨h1, -, q, K, N, hst, MM, ek, Rm, hm, hc⟩ := sz_b S s0 s1
  obtain ⟨c1, c2, -⟩ := hc k k0 k1
  obtain ⟨⟨x0, x1⟩, y0, y1⟩ := hx
  have ex : (S_numbers (Sh_st u s.toNat) (3 * k).toNat).toInt = N (3 * k) := by
    rw [hst]
    show (q _).toInt = _
    rw [hm _ (by omega) (by omega)]
    exact iZ_T (by omega) (by omega)
  have ey : (S_numbers (Sh_st u s.toNat) (3 * k + 1).toNat).toInt = N (3 * k + 1) := by
    rw [hst]
    show (q _).toInt = _
    rw [hm _ (by omega) (by omega)]
    exact iZ_T (by omega) (by omega)
  have e : sqP u x y s k = (N (3 * k) - x) * (N (3 * k) - x) + (N (3 * k + 1) - y) * (N (3 * k + 1) - y) := by
    unfold sqP
    rw [ex, ey]
  have b1 := mbd (a := N (3 * k) - x) (b := N (3 * k) - x) 99 99 9801 (by omega) (by omega) rfl
  have b2 := mbd (a := N (3 * k + 1) - y) (b := N (3 * k + 1) - y) 99 99 9801 (by omega) (by omega) rfl
  have b3 := sq_nn (N (3 * k) - x)
  have b4 := sq_nn (N (3 * k + 1) - y)
  refine ⟨by rw [e]; omega, ?_, N (3 * k), N (3 * k + 1), c1, c2, r_x Rm k0 k1, r_y Rm k0 k1, e⟩
  have f1 := c_x (s := iZ (szF u s)) (K := K) hm h1.2 k0 k1
  have f2 := c_y (s := iZ (szF u s)) (K := K) hm h1.2 k0 k1
  rw [e]
  unfold fX3_squareTo
  simp (disch := omega) only [hst, f1, f2, li7, li8, Mzz, Mzz2, Mtt, Mtz, Mtl, Mtx, Sum.elim_inl, Sum.elim_inr, bi_tr, bi_fa, gd_true, gd_dec, lt_def, bind_s, isb_0, isb_1, iZ_add, iZ_sub, iZ_mul, iZ_neg, lZ_add, lZ_sub, lZ_mul, iZ_lt, iZ_le, iZ_eq, lZ_lt, lZ_le, lZ_eq, iZ_64, iZ_N, inb_Z, if_pos, if_neg, ↓reduceIte, Bool.true_eq_false, Bool.false_eq_true, li0, li1, li2, li3, li4, li5, li6, li9, li10, li16, li20, li23, li24, li25, li31, li33, li44, li48, li49, li50, li51, li57, li59, li60, li63, li69, li70, li71, li72, li74, li99, li100, li119, li126, li250, li296, li297, li298, li299, li300, li301, li302, li303, li606, li1515, li1818, li16384, li1048576, li2147483647, li10000, lj0, lj1, lj10000]
theorem nrS_b {sq : Int → Int} {s : Int} {st : Int × Int} (s0 : 0 ≤ s) (s1 : s < 4) (hst : nrB st) : ∀ k : Nat, k ≤ 24 → (∀ j : Int, 0 ≤ j → j < k → 0 ≤ sq j ∧ sq j ≤ 19602) → nrB (nrS sq s st k)
  | 0, _, _ => hst
  | k + 1, hk, h => by
    have ih := nrS_b s0 s1 hst k (by omega) (fun j a b => h j a (by omega))
    have hq := h k (by omega) (by omega)
    rw [nrS]
    by_cases e : (nrS sq s st k).1 < 0
    · rw [if_pos e]
      exact ⟨⟨by show -1 ≤ 100 * s + (k : Int); omega, by show 100 * s + (k : Int) ≤ 400; omega⟩, hq⟩
    · rw [if_neg e]
      by_cases e2 : (nrS sq s st k).2 ≤ sq k
      · rw [if_pos e2]
        exact ih
      · rw [if_neg e2]
        exact ⟨⟨by show -1 ≤ 100 * s + (k : Int); omega, by show 100 * s + (k : Int) ≤ 400; omega⟩, hq⟩
theorem c_nrI {sc x y : Int} (hx : inP x y) (S : SR u (M_z m) sc) {s : Int} (s0 : 0 ≤ s) (s1 : s < sc) {p : Int × Int} (hp : nrB p) : lX1_nearestPoint_28 (iZ x) (iZ y) (iZ s) s.toNat u (iZ p.1) (iZ p.2) (iZ 0) = some (iZ (nrS (sqP u x y s) s p (szF u s).toNat).1, iZ (nrS (sqP u x y s) s p (szF u s).toNat).2) := by
  obtain ⟨h1, -, q, K, N, hst, -⟩ := sz_b S s0 s1
  have hsc := S.1
  refine lp_fold (f := bX1_nearestPoint_28 (iZ x) (iZ y) (iZ s) s.toNat u) (fun k => (iZ (nrS (sqP u x y s) s p k.toNat).1, iZ (nrS (sqP u x y s) s p k.toNat).2, iZ k)) (i := 0) (n := szF u s) (by omega) (fun k k0 k1 => ?_) ?_
  · have hb := nrS_b s0 (by omega) hp k.toNat (by omega) (fun j a b => (sqP_b hx S s0 s1 a (show j < szF u s by omega)).1)
    obtain ⟨hq, f1, -⟩ := sqP_b hx S s0 s1 k0 k1
    have ek : ((k.toNat : Nat) : Int) = k := Int.toNat_of_nonneg k0
    have es : (k + 1).toNat = k.toNat + 1 := by omega
    have fs : fX3_size (Sh_st u s.toNat) = some (iZ (szF u s)) := by rw [hst]; rfl
    rw [es, nrS, ek]
    obtain ⟨⟨z1, z2⟩, z3, z4⟩ := hb
    generalize nrS (sqP u x y s) s p k.toNat = r at z1 z2 z3 z4 ⊢
    obtain ⟨r1, r2⟩ := r
    have z1 : -1 ≤ r1 := z1
    have z2 : r1 ≤ 400 := z2
    have z3 : 0 ≤ r2 := z3
    have z4 : r2 ≤ 19602 := z4
    by_cases e : r1 < 0
    · rw [if_pos e]
      simp (disch := omega) only [bX1_nearestPoint_28, fs, f1, li7, li8, Mzz, Mzz2, Mtt, Mtz, Mtl, Mtx, Sum.elim_inl, Sum.elim_inr, bi_tr, bi_fa, gd_true, gd_dec, lt_def, bind_s, isb_0, isb_1, iZ_add, iZ_sub, iZ_mul, iZ_neg, lZ_add, lZ_sub, lZ_mul, iZ_lt, iZ_le, iZ_eq, lZ_lt, lZ_le, lZ_eq, iZ_64, iZ_N, inb_Z, if_pos, if_neg, ↓reduceIte, Bool.true_eq_false, Bool.false_eq_true, li0, li1, li2, li3, li4, li5, li6, li9, li10, li16, li20, li23, li24, li25, li31, li33, li44, li48, li49, li50, li51, li57, li59, li60, li63, li69, li70, li71, li72, li74, li99, li100, li119, li126, li250, li296, li297, li298, li299, li300, li301, li302, li303, li606, li1515, li1818, li16384, li1048576, li2147483647, li10000, lj0, lj1, lj10000]
    · rw [if_neg e]
      by_cases e2 : r2 ≤ sqP u x y s k
      · rw [if_pos e2]
        simp (disch := omega) only [bX1_nearestPoint_28, fs, f1, li7, li8, Mzz, Mzz2, Mtt, Mtz, Mtl, Mtx, Sum.elim_inl, Sum.elim_inr, bi_tr, bi_fa, gd_true, gd_dec, lt_def, bind_s, isb_0, isb_1, iZ_add, iZ_sub, iZ_mul, iZ_neg, lZ_add, lZ_sub, lZ_mul, iZ_lt, iZ_le, iZ_eq, lZ_lt, lZ_le, lZ_eq, iZ_64, iZ_N, inb_Z, if_pos, if_neg, ↓reduceIte, Bool.true_eq_false, Bool.false_eq_true, li0, li1, li2, li3, li4, li5, li6, li9, li10, li16, li20, li23, li24, li25, li31, li33, li44, li48, li49, li50, li51, li57, li59, li60, li63, li69, li70, li71, li72, li74, li99, li100, li119, li126, li250, li296, li297, li298, li299, li300, li301, li302, li303, li606, li1515, li1818, li16384, li1048576, li2147483647, li10000, lj0, lj1, lj10000]
      · rw [if_neg e2]
        simp (disch := omega) only [bX1_nearestPoint_28, fs, f1, li7, li8, Mzz, Mzz2, Mtt, Mtz, Mtl, Mtx, Sum.elim_inl, Sum.elim_inr, bi_tr, bi_fa, gd_true, gd_dec, lt_def, bind_s, isb_0, isb_1, iZ_add, iZ_sub, iZ_mul, iZ_neg, lZ_add, lZ_sub, lZ_mul, iZ_lt, iZ_le, iZ_eq, lZ_lt, lZ_le, lZ_eq, iZ_64, iZ_N, inb_Z, if_pos, if_neg, ↓reduceIte, Bool.true_eq_false, Bool.false_eq_true, li0, li1, li2, li3, li4, li5, li6, li9, li10, li16, li20, li23, li24, li25, li31, li33, li44, li48, li49, li50, li51, li57, li59, li60, li63, li69, li70, li71, li72, li74, li99, li100, li119, li126, li250, li296, li297, li298, li299, li300, li301, li302, li303, li606, li1515, li1818, li16384, li1048576, li2147483647, li10000, lj0, lj1, lj10000]
  · have fs : fX3_size (Sh_st u s.toNat) = some (iZ (szF u s)) := by rw [hst]; rfl
    simp (disch := omega) only [bX1_nearestPoint_28, fs, li7, li8, Mzz, Mzz2, Mtt, Mtz, Mtl, Mtx, Sum.elim_inl, Sum.elim_inr, bi_tr, bi_fa, gd_true, gd_dec, lt_def, bind_s, isb_0, isb_1, iZ_add, iZ_sub, iZ_mul, iZ_neg, lZ_add, lZ_sub, lZ_mul, iZ_lt, iZ_le, iZ_eq, lZ_lt, lZ_le, lZ_eq, iZ_64, iZ_N, inb_Z, if_pos, if_neg, ↓reduceIte, Bool.true_eq_false, Bool.false_eq_true, li0, li1, li2, li3, li4, li5, li6, li9, li10, li16, li20, li23, li24, li25, li31, li33, li44, li48, li49, li50, li51, li57, li59, li60, li63, li69, li70, li71, li72, li74, li99, li100, li119, li126, li250, li296, li297, li298, li299, li300, li301, li302, li303, li606, li1515, li1818, li16384, li1048576, li2147483647, li10000, lj0, lj1, lj10000]
theorem r_nrI {sc x y : Int} (hx : inP x y) (S : SR u (M_z m) sc) {s : Int} (s0 : 0 ≤ s) (s1 : s < sc) {p : Int × Int} (hp : nrB p) : lX6_nearest_50 (iZ x) (iZ y) (iZ s) m (iZ p.1) (iZ p.2) (iZ 0) = some (iZ (nrS (sqP u x y s) s p (szF u s).toNat).1, iZ (nrS (sqP u x y s) s p (szF u s).toNat).2) := by
  obtain ⟨h1, -, q, K, N, hst, -, -, Rm, -⟩ := sz_b S s0 s1
  have hsc := S.1
  have fp := r_pts Rm
  refine lp_fold (f := bX6_nearest_50 (iZ x) (iZ y) (iZ s) m) (fun k => (iZ (nrS (sqP u x y s) s p k.toNat).1, iZ (nrS (sqP u x y s) s p k.toNat).2, iZ k)) (i := 0) (n := szF u s) (by omega) (fun k k0 k1 => ?_) ?_
  · have hb := nrS_b s0 (by omega) hp k.toNat (by omega) (fun j a b => (sqP_b hx S s0 s1 a (show j < szF u s by omega)).1)
    obtain ⟨hq, -, ax, ay, b1, b2, f1, f2, f3⟩ := sqP_b hx S s0 s1 k0 k1
    obtain ⟨⟨x0, x1⟩, y0, y1⟩ := hx
    have ek : ((k.toNat : Nat) : Int) = k := Int.toNat_of_nonneg k0
    have es : (k + 1).toNat = k.toNat + 1 := by omega
    rw [es, nrS, ek]
    obtain ⟨⟨z1, z2⟩, z3, z4⟩ := hb
    generalize nrS (sqP u x y s) s p k.toNat = r at z1 z2 z3 z4 ⊢
    obtain ⟨r1, r2⟩ := r
    have z1 : -1 ≤ r1 := z1
    have z2 : r1 ≤ 400 := z2
    have z3 : 0 ≤ r2 := z3
    have z4 : r2 ≤ 19602 := z4
    rw [f3] at hq ⊢
    have f1 : fX6_of (iZ s) (iZ k) (iZ 0) m = some (iZ ax) := f1
    have f2 : fX6_of (iZ s) (iZ k) (iZ 1) m = some (iZ ay) := f2
    by_cases e : r1 < 0
    · rw [if_pos e]
      simp (disch := omega) only [bX6_nearest_50, fp, f1, f2, li7, li8, Mzz, Mzz2, Mtt, Mtz, Mtl, Mtx, Sum.elim_inl, Sum.elim_inr, bi_tr, bi_fa, gd_true, gd_dec, lt_def, bind_s, isb_0, isb_1, iZ_add, iZ_sub, iZ_mul, iZ_neg, lZ_add, lZ_sub, lZ_mul, iZ_lt, iZ_le, iZ_eq, lZ_lt, lZ_le, lZ_eq, iZ_64, iZ_N, inb_Z, if_pos, if_neg, ↓reduceIte, Bool.true_eq_false, Bool.false_eq_true, li0, li1, li2, li3, li4, li5, li6, li9, li10, li16, li20, li23, li24, li25, li31, li33, li44, li48, li49, li50, li51, li57, li59, li60, li63, li69, li70, li71, li72, li74, li99, li100, li119, li126, li250, li296, li297, li298, li299, li300, li301, li302, li303, li606, li1515, li1818, li16384, li1048576, li2147483647, li10000, lj0, lj1, lj10000]
    · rw [if_neg e]
      by_cases e2 : r2 ≤ (ax - x) * (ax - x) + (ay - y) * (ay - y)
      · rw [if_pos e2]
        simp (disch := omega) only [bX6_nearest_50, fp, f1, f2, li7, li8, Mzz, Mzz2, Mtt, Mtz, Mtl, Mtx, Sum.elim_inl, Sum.elim_inr, bi_tr, bi_fa, gd_true, gd_dec, lt_def, bind_s, isb_0, isb_1, iZ_add, iZ_sub, iZ_mul, iZ_neg, lZ_add, lZ_sub, lZ_mul, iZ_lt, iZ_le, iZ_eq, lZ_lt, lZ_le, lZ_eq, iZ_64, iZ_N, inb_Z, if_pos, if_neg, ↓reduceIte, Bool.true_eq_false, Bool.false_eq_true, li0, li1, li2, li3, li4, li5, li6, li9, li10, li16, li20, li23, li24, li25, li31, li33, li44, li48, li49, li50, li51, li57, li59, li60, li63, li69, li70, li71, li72, li74, li99, li100, li119, li126, li250, li296, li297, li298, li299, li300, li301, li302, li303, li606, li1515, li1818, li16384, li1048576, li2147483647, li10000, lj0, lj1, lj10000]
      · rw [if_neg e2]
        simp (disch := omega) only [bX6_nearest_50, fp, f1, f2, li7, li8, Mzz, Mzz2, Mtt, Mtz, Mtl, Mtx, Sum.elim_inl, Sum.elim_inr, bi_tr, bi_fa, gd_true, gd_dec, lt_def, bind_s, isb_0, isb_1, iZ_add, iZ_sub, iZ_mul, iZ_neg, lZ_add, lZ_sub, lZ_mul, iZ_lt, iZ_le, iZ_eq, lZ_lt, lZ_le, lZ_eq, iZ_64, iZ_N, inb_Z, if_pos, if_neg, ↓reduceIte, Bool.true_eq_false, Bool.false_eq_true, li0, li1, li2, li3, li4, li5, li6, li9, li10, li16, li20, li23, li24, li25, li31, li33, li44, li48, li49, li50, li51, li57, li59, li60, li63, li69, li70, li71, li72, li74, li99, li100, li119, li126, li250, li296, li297, li298, li299, li300, li301, li302, li303, li606, li1515, li1818, li16384, li1048576, li2147483647, li10000, lj0, lj1, lj10000]
  · simp (disch := omega) only [bX6_nearest_50, fp, li7, li8, Mzz, Mzz2, Mtt, Mtz, Mtl, Mtx, Sum.elim_inl, Sum.elim_inr, bi_tr, bi_fa, gd_true, gd_dec, lt_def, bind_s, isb_0, isb_1, iZ_add, iZ_sub, iZ_mul, iZ_neg, lZ_add, lZ_sub, lZ_mul, iZ_lt, iZ_le, iZ_eq, lZ_lt, lZ_le, lZ_eq, iZ_64, iZ_N, inb_Z, if_pos, if_neg, ↓reduceIte, Bool.true_eq_false, Bool.false_eq_true, li0, li1, li2, li3, li4, li5, li6, li9, li10, li16, li20, li23, li24, li25, li31, li33, li44, li48, li49, li50, li51, li57, li59, li60, li63, li69, li70, li71, li72, li74, li99, li100, li119, li126, li250, li296, li297, li298, li299, li300, li301, li302, li303, li606, li1515, li1818, li16384, li1048576, li2147483647, li10000, lj0, lj1, lj10000]
theorem nrO_b {sc x y : Int} (hx : inP x y) (S : SR u (M_z m) sc) : ∀ s : Nat, (s : Int) ≤ sc → nrB (nrO (sqP u x y) (szF u) s)
  | 0, _ => ⟨⟨by show -1 ≤ (-1 : Int); omega, by show (-1 : Int) ≤ 400; omega⟩, by show 0 ≤ (0 : Int); omega, by show (0 : Int) ≤ 19602; omega⟩
  | s + 1, h => by
    have hsc := S.1
    have ih := nrO_b hx S s (by omega)
    have h1 := (sz_b S (show 0 ≤ (s : Int) by omega) (by omega)).1
    rw [nrO]
    exact nrS_b (by omega) (by omega) ih _ (by omega) (fun j a b => (sqP_b hx S (by omega) (by omega) a (by omega)).1)
theorem g_nearest (G : GR u ts hs ns m) (p1 p2 : Int32) : ∃ (o : Nat ⊕ Int32) (b : Int32) (m' : MS), fX5_nearest p1 p2 u = some o ∧ fX6_nearest p1 p2 m = some (b, m') ∧ Gst g [1] D (obX5_nearest g D R u ts bs ps hs ns o) b m' := by
  obtain ⟨x, rfl, X⟩ := iZ_B p1
  obtain ⟨y, rfl, Y⟩ := iZ_B p2
  obtain ⟨⟨sc, S⟩, -⟩ := id G
  have S1 : SR u (M_z (M_s_thrown m (iZ 0))) sc := S
  have hsc := S.1
  have h2 := S.2.1
  have h3 : M_z m (296 : Int).toNat = iZ sc := S.2.2.1
  by_cases hx : inP x y
  · have f1 := plcY X Y hx
    have e1 := atY X Y hx
    have k1 := lp_fold (f := bX1_nearestPoint_8 (iZ x) (iZ y) u) (fun s => (iZ (nrO (sqP u x y) (szF u) s.toNat).1, iZ (nrO (sqP u x y) (szF u) s.toNat).2, iZ s)) (i := 0) (n := sc) (r := iZ (nrO (sqP u x y) (szF u) sc.toNat).1) hsc.1 (fun s s0 s1 => by
      have hb := nrO_b hx S s.toNat (by omega)
      have es : (s + 1).toNat = s.toNat + 1 := by omega
      have ek : ((s.toNat : Nat) : Int) = s := Int.toNat_of_nonneg s0
      have e9 := c_at (u := u) s0 (by omega)
      have ei := c_nrI hx S s0 s1 hb
      rw [es, nrO, ek]
      simp (disch := omega) only [bX1_nearestPoint_8, h2, e9, ei, li7, li8, Mzz, Mzz2, Mtt, Mtz, Mtl, Mtx, Sum.elim_inl, Sum.elim_inr, bi_tr, bi_fa, gd_true, gd_dec, lt_def, bind_s, isb_0, isb_1, iZ_add, iZ_sub, iZ_mul, iZ_neg, lZ_add, lZ_sub, lZ_mul, iZ_lt, iZ_le, iZ_eq, lZ_lt, lZ_le, lZ_eq, iZ_64, iZ_N, inb_Z, if_pos, if_neg, ↓reduceIte, Bool.true_eq_false, Bool.false_eq_true, li0, li1, li2, li3, li4, li5, li6, li9, li10, li16, li20, li23, li24, li25, li31, li33, li44, li48, li49, li50, li51, li57, li59, li60, li63, li69, li70, li71, li72, li74, li99, li100, li119, li126, li250, li296, li297, li298, li299, li300, li301, li302, li303, li606, li1515, li1818, li16384, li1048576, li2147483647, li10000, lj0, lj1, lj10000]) (by
      simp (disch := omega) only [bX1_nearestPoint_8, h2, li7, li8, Mzz, Mzz2, Mtt, Mtz, Mtl, Mtx, Sum.elim_inl, Sum.elim_inr, bi_tr, bi_fa, gd_true, gd_dec, lt_def, bind_s, isb_0, isb_1, iZ_add, iZ_sub, iZ_mul, iZ_neg, lZ_add, lZ_sub, lZ_mul, iZ_lt, iZ_le, iZ_eq, lZ_lt, lZ_le, lZ_eq, iZ_64, iZ_N, inb_Z, if_pos, if_neg, ↓reduceIte, Bool.true_eq_false, Bool.false_eq_true, li0, li1, li2, li3, li4, li5, li6, li9, li10, li16, li20, li23, li24, li25, li31, li33, li44, li48, li49, li50, li51, li57, li59, li60, li63, li69, li70, li71, li72, li74, li99, li100, li119, li126, li250, li296, li297, li298, li299, li300, li301, li302, li303, li606, li1515, li1818, li16384, li1048576, li2147483647, li10000, lj0, lj1, lj10000] <;> rfl)
    have k2 := lp_fold (f := bX6_nearest_34 (iZ x) (iZ y) (M_s_thrown m (iZ 0))) (fun s => (iZ (nrO (sqP u x y) (szF u) s.toNat).1, iZ (nrO (sqP u x y) (szF u) s.toNat).2, iZ s)) (i := 0) (n := sc) (r := iZ (nrO (sqP u x y) (szF u) sc.toNat).1) hsc.1 (fun s s0 s1 => by
      have hb := nrO_b hx S s.toNat (by omega)
      have es : (s + 1).toNat = s.toNat + 1 := by omega
      have ek : ((s.toNat : Nat) : Int) = s := Int.toNat_of_nonneg s0
      have ei := r_nrI hx S1 s0 s1 hb
      rw [es, nrO, ek]
      simp (disch := omega) only [bX6_nearest_34, h3, ei, li7, li8, Mzz, Mzz2, Mtt, Mtz, Mtl, Mtx, Sum.elim_inl, Sum.elim_inr, bi_tr, bi_fa, gd_true, gd_dec, lt_def, bind_s, isb_0, isb_1, iZ_add, iZ_sub, iZ_mul, iZ_neg, lZ_add, lZ_sub, lZ_mul, iZ_lt, iZ_le, iZ_eq, lZ_lt, lZ_le, lZ_eq, iZ_64, iZ_N, inb_Z, if_pos, if_neg, ↓reduceIte, Bool.true_eq_false, Bool.false_eq_true, li0, li1, li2, li3, li4, li5, li6, li9, li10, li16, li20, li23, li24, li25, li31, li33, li44, li48, li49, li50, li51, li57, li59, li60, li63, li69, li70, li71, li72, li74, li99, li100, li119, li126, li250, li296, li297, li298, li299, li300, li301, li302, li303, li606, li1515, li1818, li16384, li1048576, li2147483647, li10000, lj0, lj1, lj10000]) (by
      simp (disch := omega) only [bX6_nearest_34, h3, li7, li8, Mzz, Mzz2, Mtt, Mtz, Mtl, Mtx, Sum.elim_inl, Sum.elim_inr, bi_tr, bi_fa, gd_true, gd_dec, lt_def, bind_s, isb_0, isb_1, iZ_add, iZ_sub, iZ_mul, iZ_neg, lZ_add, lZ_sub, lZ_mul, iZ_lt, iZ_le, iZ_eq, lZ_lt, lZ_le, lZ_eq, iZ_64, iZ_N, inb_Z, if_pos, if_neg, ↓reduceIte, Bool.true_eq_false, Bool.false_eq_true, li0, li1, li2, li3, li4, li5, li6, li9, li10, li16, li20, li23, li24, li25, li31, li33, li44, li48, li49, li50, li51, li57, li59, li60, li63, li69, li70, li71, li72, li74, li99, li100, li119, li126, li250, li296, li297, li298, li299, li300, li301, li302, li303, li606, li1515, li1818, li16384, li1048576, li2147483647, li10000, lj0, lj1, lj10000])
    have k1' : lX1_nearestPoint_8 (iZ x) (iZ y) u (iZ (-1)) (iZ 0) (iZ 0) = some (iZ (nrO (sqP u x y) (szF u) sc.toNat).1) := k1
    have k2' : lX6_nearest_34 (iZ x) (iZ y) (M_s_thrown m (iZ 0)) (iZ (-1)) (iZ 0) (iZ 0) = some (iZ (nrO (sqP u x y) (szF u) sc.toNat).1) := k2
    refine ⟨.inr (iZ (nrO (sqP u x y) (szF u) sc.toNat).1), iZ (nrO (sqP u x y) (szF u) sc.toNat).1, M_s_thrown m (iZ 0), ?_, ?_, Gst.r rfl (fun _ => WB.mk G)⟩
    · unfold fX5_nearest fX1_nearestPoint
      simp (disch := omega) only [f1, k1', li7, li8, Mzz, Mzz2, Mtt, Mtz, Mtl, Mtx, Sum.elim_inl, Sum.elim_inr, bi_tr, bi_fa, gd_true, gd_dec, lt_def, bind_s, isb_0, isb_1, iZ_add, iZ_sub, iZ_mul, iZ_neg, lZ_add, lZ_sub, lZ_mul, iZ_lt, iZ_le, iZ_eq, lZ_lt, lZ_le, lZ_eq, iZ_64, iZ_N, inb_Z, if_pos, if_neg, ↓reduceIte, Bool.true_eq_false, Bool.false_eq_true, li0, li1, li2, li3, li4, li5, li6, li9, li10, li16, li20, li23, li24, li25, li31, li33, li44, li48, li49, li50, li51, li57, li59, li60, li63, li69, li70, li71, li72, li74, li99, li100, li119, li126, li250, li296, li297, li298, li299, li300, li301, li302, li303, li606, li1515, li1818, li16384, li1048576, li2147483647, li10000, lj0, lj1, lj10000]
    · unfold fX6_nearest
      simp (disch := omega) only [e1, k2', li7, li8, Mzz, Mzz2, Mtt, Mtz, Mtl, Mtx, Sum.elim_inl, Sum.elim_inr, bi_tr, bi_fa, gd_true, gd_dec, lt_def, bind_s, isb_0, isb_1, iZ_add, iZ_sub, iZ_mul, iZ_neg, lZ_add, lZ_sub, lZ_mul, iZ_lt, iZ_le, iZ_eq, lZ_lt, lZ_le, lZ_eq, iZ_64, iZ_N, inb_Z, if_pos, if_neg, ↓reduceIte, Bool.true_eq_false, Bool.false_eq_true, li0, li1, li2, li3, li4, li5, li6, li9, li10, li16, li20, li23, li24, li25, li31, li33, li44, li48, li49, li50, li51, li57, li59, li60, li63, li69, li70, li71, li72, li74, li99, li100, li119, li126, li250, li296, li297, li298, li299, li300, li301, li302, li303, li606, li1515, li1818, li16384, li1048576, li2147483647, li10000, lj0, lj1, lj10000]
  · have f1 := plcN X Y hx
    have e1 := atN X Y hx
    refine ⟨.inl 1, iZ 0, M_s_thrown m (iZ 1), ?_, ?_, Gst.l 0 rfl rfl (fun _ => WB.mk G)⟩
    · unfold fX5_nearest
      simp (disch := omega) only [f1, li7, li8, Mzz, Mzz2, Mtt, Mtz, Mtl, Mtx, Sum.elim_inl, Sum.elim_inr, bi_tr, bi_fa, gd_true, gd_dec, lt_def, bind_s, isb_0, isb_1, iZ_add, iZ_sub, iZ_mul, iZ_neg, lZ_add, lZ_sub, lZ_mul, iZ_lt, iZ_le, iZ_eq, lZ_lt, lZ_le, lZ_eq, iZ_64, iZ_N, inb_Z, if_pos, if_neg, ↓reduceIte, Bool.true_eq_false, Bool.false_eq_true, li0, li1, li2, li3, li4, li5, li6, li9, li10, li16, li20, li23, li24, li25, li31, li33, li44, li48, li49, li50, li51, li57, li59, li60, li63, li69, li70, li71, li72, li74, li99, li100, li119, li126, li250, li296, li297, li298, li299, li300, li301, li302, li303, li606, li1515, li1818, li16384, li1048576, li2147483647, li10000, lj0, lj1, lj10000]
    · unfold fX6_nearest
      simp (disch := omega) only [e1, li7, li8, Mzz, Mzz2, Mtt, Mtz, Mtl, Mtx, Sum.elim_inl, Sum.elim_inr, bi_tr, bi_fa, gd_true, gd_dec, lt_def, bind_s, isb_0, isb_1, iZ_add, iZ_sub, iZ_mul, iZ_neg, lZ_add, lZ_sub, lZ_mul, iZ_lt, iZ_le, iZ_eq, lZ_lt, lZ_le, lZ_eq, iZ_64, iZ_N, inb_Z, if_pos, if_neg, ↓reduceIte, Bool.true_eq_false, Bool.false_eq_true, li0, li1, li2, li3, li4, li5, li6, li9, li10, li16, li20, li23, li24, li25, li31, li33, li44, li48, li49, li50, li51, li57, li59, li60, li63, li69, li70, li71, li72, li74, li99, li100, li119, li126, li250, li296, li297, li298, li299, li300, li301, li302, li303, li606, li1515, li1818, li16384, li1048576, li2147483647, li10000, lj0, lj1, lj10000]
end Q
end
