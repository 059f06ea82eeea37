section
/-! the whole: what would be -/
theorem fix_both {u : ShS} {m : MS} {sc a n : Int} {N : Int → Int} {K : Int32} {q : Nat → Int32} (S : SR u (M_z m) sc) (ha : 0 ≤ a ∧ a < sc) (hst : Sh_st u a.toNat = (q, iZ n, K)) (hm : Row q n N) (M : MK n K) (hc : Crd n N) : ∃ F : Int32, MK n F ∧ fX1_fixedPoints a.toNat u = some F ∧ ∀ v : MS, M_z v = M_z m → RMs v a n N K → fX6_fixedSet (iZ a) v = some F := by
  have hsc := S.1
  have hn := M.1
  obtain ⟨c, f3, c1, c2⟩ := S.v1
  obtain ⟨wv, f4, d1, d2⟩ := S.v2
  obtain ⟨F, h1, h2⟩ := c_fixed (show a.toNat < 5 by omega) hst f3 f4 hm hc (by omega) c2.1 c2.2 (by omega) (by omega)
  refine ⟨F, fx_MK h1 hn (by rw [kdD_0]; omega) (by rw [kdD_n]; omega), h2, fun v hv Rv => ?_⟩
  exact r_fixed Rv hc (by rw [hv]; exact c1) (by rw [hv]; exact d1) c2.1 c2.2 (by omega) (by omega) h1
theorem simp_both {v : MS} {a n : Int} {N : Int → Int} {K F : Int32} {q : Nat → Int32} (Rv : RMs v a n N K) (hm : Row q n N) (hc : Crd n N) (M : MK n K) (MF : MK n F) (hF : fX6_fixedSet (iZ a) v = some F) {bd w : Int} (d0 : 0 ≤ bd) (d1 : bd ≤ 50) (hw : 0 ≤ w ∧ w ≤ 1) (ps : PS) : ∃ (S : Int32) (ps' : PS) (v' : MS), MK n S ∧ fX2_keptPoints F (iZ bd) (iZ w) ps (q, iZ n, K) = some (S, ps') ∧ fX6_simplified (iZ a) (iZ bd) (iZ w) v = some (S, v') ∧ sameM v v' := by
  have hn := M.1
  by_cases e : w = 0
  · subst e
    obtain ⟨S, qq, h1, h2, h3⟩ := splitting (p := ps) Rv hm hc d0 d1 MF hF
    refine ⟨S, ps, ab v qq, h1, ?_, ?_, sameM.ab v qq⟩
    · unfold fX2_keptPoints
      simp (disch := omega) only [h2, Mzz, Mzz2, Mtt, Mtz, Mtl, Mtx, Sum.elim_inl, Sum.elim_inr, bi_tr, bi_fa, gd_true, gd_dec, lt_def, bind_s, isb_0, isb_1, iZ_add, iZ_sub, iZ_mul, iZ_neg, lZ_add, lZ_sub, lZ_mul, iZ_lt, iZ_le, iZ_eq, lZ_lt, lZ_le, lZ_eq, iZ_64, iZ_N, inb_Z, if_pos, if_neg, ↓reduceIte, Bool.true_eq_false, Bool.false_eq_true, li0, li1, li2, li3, li4, li5, li6, li9, li10, li16, li20, li23, li24, li25, li31, li33, li44, li48, li49, li50, li51, li57, li59, li60, li63, li69, li70, li71, li72, li74, li99, li100, li119, li126, li250, li296, li297, li298, li299, li300, li301, li302, li303, li606, li1515, li1818, li16384, li1048576, li2147483647, li10000, lj0, lj1, lj10000]
    · unfold fX6_simplified
      simp (disch := omega) only [h3, Mzz, Mzz2, Mtt, Mtz, Mtl, Mtx, Sum.elim_inl, Sum.elim_inr, bi_tr, bi_fa, gd_true, gd_dec, lt_def, bind_s, isb_0, isb_1, iZ_add, iZ_sub, iZ_mul, iZ_neg, lZ_add, lZ_sub, lZ_mul, iZ_lt, iZ_le, iZ_eq, lZ_lt, lZ_le, lZ_eq, iZ_64, iZ_N, inb_Z, if_pos, if_neg, ↓reduceIte, Bool.true_eq_false, Bool.false_eq_true, li0, li1, li2, li3, li4, li5, li6, li9, li10, li16, li20, li23, li24, li25, li31, li33, li44, li48, li49, li50, li51, li57, li59, li60, li63, li69, li70, li71, li72, li74, li99, li100, li119, li126, li250, li296, li297, li298, li299, li300, li301, li302, li303, li606, li1515, li1818, li16384, li1048576, li2147483647, li10000, lj0, lj1, lj10000]
  · obtain ⟨nd, h1, h2⟩ := c_measure (K := K) (F := F) hm hc hn ps
    obtain ⟨C, S, cs', TT, h3⟩ := c_fewest ps.2 hn d0 d1 h2
    obtain ⟨v', h4, h5⟩ := r_fewest Rv hc hn d0 d1 hF TT
    have fs : fX3_size (q, iZ n, K) = some (iZ n) := rfl
    refine ⟨S (n - 1), (nd, cs'), v', TT.MK hn, ?_, ?_, h4⟩
    · unfold fX2_keptPoints
      simp (disch := omega) only [h1, fs, h3, Mzz, Mzz2, Mtt, Mtz, Mtl, Mtx, Sum.elim_inl, Sum.elim_inr, bi_tr, bi_fa, gd_true, gd_dec, lt_def, bind_s, isb_0, isb_1, iZ_add, iZ_sub, iZ_mul, iZ_neg, lZ_add, lZ_sub, lZ_mul, iZ_lt, iZ_le, iZ_eq, lZ_lt, lZ_le, lZ_eq, iZ_64, iZ_N, inb_Z, if_pos, if_neg, ↓reduceIte, Bool.true_eq_false, Bool.false_eq_true, li0, li1, li2, li3, li4, li5, li6, li9, li10, li16, li20, li23, li24, li25, li31, li33, li44, li48, li49, li50, li51, li57, li59, li60, li63, li69, li70, li71, li72, li74, li99, li100, li119, li126, li250, li296, li297, li298, li299, li300, li301, li302, li303, li606, li1515, li1818, li16384, li1048576, li2147483647, li10000, lj0, lj1, lj10000]
    · unfold fX6_simplified
      simp (disch := omega) only [h5, Mzz, Mzz2, Mtt, Mtz, Mtl, Mtx, Sum.elim_inl, Sum.elim_inr, bi_tr, bi_fa, gd_true, gd_dec, lt_def, bind_s, isb_0, isb_1, iZ_add, iZ_sub, iZ_mul, iZ_neg, lZ_add, lZ_sub, lZ_mul, iZ_lt, iZ_le, iZ_eq, lZ_lt, lZ_le, lZ_eq, iZ_64, iZ_N, inb_Z, if_pos, if_neg, ↓reduceIte, Bool.true_eq_false, Bool.false_eq_true, li0, li1, li2, li3, li4, li5, li6, li9, li10, li16, li20, li23, li24, li25, li31, li33, li44, li48, li49, li50, li51, li57, li59, li60, li63, li69, li70, li71, li72, li74, li99, li100, li119, li126, li250, li296, li297, li298, li299, li300, li301, li302, li303, li606, li1515, li1818, li16384, li1048576, li2147483647, li10000, lj0, lj1, lj10000]
section Q
variable {g : kG} {D : Nat → Nat → Nat} {R : kAd} {u : ShS} {ts : TS} {bs : SS} {ps : PS} {hs : HS} {ns : NS} {m : MS}
theorem g_ifSimplified (G : GR u ts hs ns m) (p1 p2 p3 : Int32) : ∃ (o : (Nat × PS) ⊕ (Int32 × PS)) (b : Int32) (m' : MS), fX5_ifSimplified p1 p2 p3 u ps = some o ∧ fX6_ifSimplified p1 p2 p3 m = some (b, m') ∧ Gst g [0, 1] D (obX5_ifSimplified g D R u ts bs ps hs ns o) b m' := by
  obtain ⟨a, rfl, A⟩ := iZ_B p1
  obtain ⟨bd, rfl, B⟩ := iZ_B p2
  obtain ⟨w, rfl, W⟩ := iZ_B p3
  obtain ⟨⟨sc, S⟩, -⟩ := id G
  have hsc := S.1
  by_cases ha : 0 ≤ a ∧ a < sc
  · obtain ⟨n, N, K, q, hst, hm, M, hc, Rm⟩ := S.rms ha.1 ha.2
    have hn := M.1
    have hi5 : a.toNat < 5 := by omega
    have f1 := exY A S ha
    have e1 := isY A S ha
    by_cases hb9 : 0 ≤ bd ∧ bd ≤ 50
    · have f2 := btwY B (lo := 0) (hi := 50) (by omega) (by omega) hb9
      have e2 := inY B (lo := 0) (hi := 50) (by omega) (by omega) hb9
      by_cases hw : 0 ≤ w ∧ w ≤ 1
      · have f3 := wayY W hw
        have e3 := inY W (lo := 0) (hi := 1) (by omega) (by omega) hw
        have Rm1 : RMs (M_s_thrown m (iZ 0)) a n N K := Rm
        obtain ⟨F, MF, f4, e4⟩ := fix_both S ha hst hm M hc
        obtain ⟨SS9, ps', v', MS9, f5, e5, sm9⟩ := simp_both Rm1 hm hc M MF (e4 _ rfl Rm1) hb9.1 hb9.2 hw ps
        have f6 := MS9.ones.1
        have e6 := r_ones SS9
        refine ⟨.inr (iZ (su (onz SS9) 0 24), ps'), iZ (su (onz SS9) 0 24), v', ?_, ?_, Gst.r ?_ (fun _ => WB.mk (GR.sm (G.th (iZ 0)) sm9))⟩
        · unfold fX5_ifSimplified
          simp (disch := omega) only [f1, f2, f3, f4, hst, f5, f6, Mzz, Mzz2, Mtt, Mtz, Mtl, Mtx, Sum.elim_inl, Sum.elim_inr, bi_tr, bi_fa, gd_true, gd_dec, lt_def, bind_s, isb_0, isb_1, iZ_add, iZ_sub, iZ_mul, iZ_neg, lZ_add, lZ_sub, lZ_mul, iZ_lt, iZ_le, iZ_eq, lZ_lt, lZ_le, lZ_eq, iZ_64, iZ_N, inb_Z, if_pos, if_neg, ↓reduceIte, Bool.true_eq_false, Bool.false_eq_true, li0, li1, li2, li3, li4, li5, li6, li9, li10, li16, li20, li23, li24, li25, li31, li33, li44, li48, li49, li50, li51, li57, li59, li60, li63, li69, li70, li71, li72, li74, li99, li100, li119, li126, li250, li296, li297, li298, li299, li300, li301, li302, li303, li606, li1515, li1818, li16384, li1048576, li2147483647, li10000, lj0, lj1, lj10000]
        · unfold fX6_ifSimplified
          simp (disch := omega) only [e1, e2, e3, e5, e6, Mzz, Mzz2, Mtt, Mtz, Mtl, Mtx, Sum.elim_inl, Sum.elim_inr, bi_tr, bi_fa, gd_true, gd_dec, lt_def, bind_s, isb_0, isb_1, iZ_add, iZ_sub, iZ_mul, iZ_neg, lZ_add, lZ_sub, lZ_mul, iZ_lt, iZ_le, iZ_eq, lZ_lt, lZ_le, lZ_eq, iZ_64, iZ_N, inb_Z, if_pos, if_neg, ↓reduceIte, Bool.true_eq_false, Bool.false_eq_true, li0, li1, li2, li3, li4, li5, li6, li9, li10, li16, li20, li23, li24, li25, li31, li33, li44, li48, li49, li50, li51, li57, li59, li60, li63, li69, li70, li71, li72, li74, li99, li100, li119, li126, li250, li296, li297, li298, li299, li300, li301, li302, li303, li606, li1515, li1818, li16384, li1048576, li2147483647, li10000, lj0, lj1, lj10000]
        · rw [sm9.2.2.2.2.2.2.2]
      · have f3 := wayN W hw
        have e3 := inN W (lo := 0) (hi := 1) (by omega) (by omega) hw
        refine ⟨.inl (1, ps), iZ 0, M_s_thrown m (iZ 2), ?_, ?_, Gst.l 1 rfl rfl (fun _ => WB.mk G)⟩
        · unfold fX5_ifSimplified
          simp (disch := omega) only [f1, f2, f3, Mzz, Mzz2, Mtt, Mtz, Mtl, Mtx, Sum.elim_inl, Sum.elim_inr, bi_tr, bi_fa, gd_true, gd_dec, lt_def, bind_s, isb_0, isb_1, iZ_add, iZ_sub, iZ_mul, iZ_neg, lZ_add, lZ_sub, lZ_mul, iZ_lt, iZ_le, iZ_eq, lZ_lt, lZ_le, lZ_eq, iZ_64, iZ_N, inb_Z, if_pos, if_neg, ↓reduceIte, Bool.true_eq_false, Bool.false_eq_true, li0, li1, li2, li3, li4, li5, li6, li9, li10, li16, li20, li23, li24, li25, li31, li33, li44, li48, li49, li50, li51, li57, li59, li60, li63, li69, li70, li71, li72, li74, li99, li100, li119, li126, li250, li296, li297, li298, li299, li300, li301, li302, li303, li606, li1515, li1818, li16384, li1048576, li2147483647, li10000, lj0, lj1, lj10000]
        · unfold fX6_ifSimplified
          simp (disch := omega) only [e1, e2, e3, Mzz, Mzz2, Mtt, Mtz, Mtl, Mtx, Sum.elim_inl, Sum.elim_inr, bi_tr, bi_fa, gd_true, gd_dec, lt_def, bind_s, isb_0, isb_1, iZ_add, iZ_sub, iZ_mul, iZ_neg, lZ_add, lZ_sub, lZ_mul, iZ_lt, iZ_le, iZ_eq, lZ_lt, lZ_le, lZ_eq, iZ_64, iZ_N, inb_Z, if_pos, if_neg, ↓reduceIte, Bool.true_eq_false, Bool.false_eq_true, li0, li1, li2, li3, li4, li5, li6, li9, li10, li16, li20, li23, li24, li25, li31, li33, li44, li48, li49, li50, li51, li57, li59, li60, li63, li69, li70, li71, li72, li74, li99, li100, li119, li126, li250, li296, li297, li298, li299, li300, li301, li302, li303, li606, li1515, li1818, li16384, li1048576, li2147483647, li10000, lj0, lj1, lj10000]
    · have f2 := btwN B (lo := 0) (hi := 50) (by omega) (by omega) hb9
      have e2 := inN B (lo := 0) (hi := 50) (by omega) (by omega) hb9
      refine ⟨.inl (1, ps), iZ 0, M_s_thrown m (iZ 2), ?_, ?_, Gst.l 1 rfl rfl (fun _ => WB.mk G)⟩
      · unfold fX5_ifSimplified
        simp (disch := omega) only [f1, f2, Mzz, Mzz2, Mtt, Mtz, Mtl, Mtx, Sum.elim_inl, Sum.elim_inr, bi_tr, bi_fa, gd_true, gd_dec, lt_def, bind_s, isb_0, isb_1, iZ_add, iZ_sub, iZ_mul, iZ_neg, lZ_add, lZ_sub, lZ_mul, iZ_lt, iZ_le, iZ_eq, lZ_lt, lZ_le, lZ_eq, iZ_64, iZ_N, inb_Z, if_pos, if_neg, ↓reduceIte, Bool.true_eq_false, Bool.false_eq_true, li0, li1, li2, li3, li4, li5, li6, li9, li10, li16, li20, li23, li24, li25, li31, li33, li44, li48, li49, li50, li51, li57, li59, li60, li63, li69, li70, li71, li72, li74, li99, li100, li119, li126, li250, li296, li297, li298, li299, li300, li301, li302, li303, li606, li1515, li1818, li16384, li1048576, li2147483647, li10000, lj0, lj1, lj10000]
      · unfold fX6_ifSimplified
        simp (disch := omega) only [e1, e2, Mzz, Mzz2, Mtt, Mtz, Mtl, Mtx, Sum.elim_inl, Sum.elim_inr, bi_tr, bi_fa, gd_true, gd_dec, lt_def, bind_s, isb_0, isb_1, iZ_add, iZ_sub, iZ_mul, iZ_neg, lZ_add, lZ_sub, lZ_mul, iZ_lt, iZ_le, iZ_eq, lZ_lt, lZ_le, lZ_eq, iZ_64, iZ_N, inb_Z, if_pos, if_neg, ↓reduceIte, Bool.true_eq_false, Bool.false_eq_true, li0, li1, li2, li3, li4, li5, li6, li9, li10, li16, li20, li23, li24, li25, li31, li33, li44, li48, li49, li50, li51, li57, li59, li60, li63, li69, li70, li71, li72, li74, li99, li100, li119, li126, li250, li296, li297, li298, li299, li300, li301, li302, li303, li606, li1515, li1818, li16384, li1048576, li2147483647, li10000, lj0, lj1, lj10000]
  · have f1 := exN A S ha
    have e1 := isN A S ha
    refine ⟨.inl (0, ps), iZ 0, M_s_thrown m (iZ 1), ?_, ?_, Gst.l 0 rfl rfl (fun _ => WB.mk G)⟩
    · unfold fX5_ifSimplified
      simp (disch := omega) only [f1, Mzz, Mzz2, Mtt, Mtz, Mtl, Mtx, Sum.elim_inl, Sum.elim_inr, bi_tr, bi_fa, gd_true, gd_dec, lt_def, bind_s, isb_0, isb_1, iZ_add, iZ_sub, iZ_mul, iZ_neg, lZ_add, lZ_sub, lZ_mul, iZ_lt, iZ_le, iZ_eq, lZ_lt, lZ_le, lZ_eq, iZ_64, iZ_N, inb_Z, if_pos, if_neg, ↓reduceIte, Bool.true_eq_false, Bool.false_eq_true, li0, li1, li2, li3, li4, li5, li6, li9, li10, li16, li20, li23, li24, li25, li31, li33, li44, li48, li49, li50, li51, li57, li59, li60, li63, li69, li70, li71, li72, li74, li99, li100, li119, li126, li250, li296, li297, li298, li299, li300, li301, li302, li303, li606, li1515, li1818, li16384, li1048576, li2147483647, li10000, lj0, lj1, lj10000]
    · unfold fX6_ifSimplified
      simp (disch := omega) only [e1, Mzz, Mzz2, Mtt, Mtz, Mtl, Mtx, Sum.elim_inl, Sum.elim_inr, bi_tr, bi_fa, gd_true, gd_dec, lt_def, bind_s, isb_0, isb_1, iZ_add, iZ_sub, iZ_mul, iZ_neg, lZ_add, lZ_sub, lZ_mul, iZ_lt, iZ_le, iZ_eq, lZ_lt, lZ_le, lZ_eq, iZ_64, iZ_N, inb_Z, if_pos, if_neg, ↓reduceIte, Bool.true_eq_false, Bool.false_eq_true, li0, li1, li2, li3, li4, li5, li6, li9, li10, li16, li20, li23, li24, li25, li31, li33, li44, li48, li49, li50, li51, li57, li59, li60, li63, li69, li70, li71, li72, li74, li99, li100, li119, li126, li250, li296, li297, li298, li299, li300, li301, li302, li303, li606, li1515, li1818, li16384, li1048576, li2147483647, li10000, lj0, lj1, lj10000]
theorem least_both {v0 : MS} {a n : Int} {N : Int → Int} {K F : Int32} {q : Nat → Int32} (Rv : RMs v0 a n N K) (hm : Row q n N) (hc : Crd n N) (M : MK n K) (MF : MK n F) (hF : ∀ v : MS, sameM v0 v → fX6_fixedSet (iZ a) v = some F) {w many : Int} (hw : 0 ≤ w ∧ w ≤ 1) (hma : 2 ≤ many ∧ many ≤ 24) : ∀ (d : Nat) (k : Int) (v : MS) (ps : PS), 0 ≤ k → k + d = 51 → sameM v0 v → (w = 1 → ∀ f t : Int, 0 ≤ f → f < t → t < n → NdOk ps.1 N F f t) → ∃ (y : Int) (ps' : PS) (v' : MS), lX2_leastBoundFor_15 F (iZ many) (iZ w) (q, iZ n, K) (iZ k) ps = some (iZ (if 50 < y then -1 else y), ps') ∧ lX6_leastBound_52 (iZ a) (iZ many) (iZ w) (iZ k) v = some (iZ y, v') ∧ sameM v0 v' ∧ 0 ≤ y ∧ y ≤ 51
  | 0, k, v, ps, k0, hk, hs, hnd => by
    have : k = 51 := by omega
    subst this
    refine ⟨51, ps, v, ?_, ?_, hs, by omega, by omega⟩
    · refine lp_out ?_
      simp (disch := omega) only [bX2_leastBoundFor_15, Mzz, Mzz2, Mtt, Mtz, Mtl, Mtx, Sum.elim_inl, Sum.elim_inr, bi_tr, bi_fa, gd_true, gd_dec, lt_def, bind_s, isb_0, isb_1, iZ_add, iZ_sub, iZ_mul, iZ_neg, lZ_add, lZ_sub, lZ_mul, iZ_lt, iZ_le, iZ_eq, lZ_lt, lZ_le, lZ_eq, iZ_64, iZ_N, inb_Z, if_pos, if_neg, ↓reduceIte, Bool.true_eq_false, Bool.false_eq_true, li0, li1, li2, li3, li4, li5, li6, li9, li10, li16, li20, li23, li24, li25, li31, li33, li44, li48, li49, li50, li51, li57, li59, li60, li63, li69, li70, li71, li72, li74, li99, li100, li119, li126, li250, li296, li297, li298, li299, li300, li301, li302, li303, li606, li1515, li1818, li16384, li1048576, li2147483647, li10000, lj0, lj1, lj10000]
    · refine lp_out ?_
      simp (disch := omega) only [bX6_leastBound_52, Mzz, Mzz2, Mtt, Mtz, Mtl, Mtx, Sum.elim_inl, Sum.elim_inr, bi_tr, bi_fa, gd_true, gd_dec, lt_def, bind_s, isb_0, isb_1, iZ_add, iZ_sub, iZ_mul, iZ_neg, lZ_add, lZ_sub, lZ_mul, iZ_lt, iZ_le, iZ_eq, lZ_lt, lZ_le, lZ_eq, iZ_64, iZ_N, inb_Z, if_pos, if_neg, ↓reduceIte, Bool.true_eq_false, Bool.false_eq_true, li0, li1, li2, li3, li4, li5, li6, li9, li10, li16, li20, li23, li24, li25, li31, li33, li44, li48, li49, li50, li51, li57, li59, li60, li63, li69, li70, li71, li72, li74, li99, li100, li119, li126, li250, li296, li297, li298, li299, li300, li301, li302, li303, li606, li1515, li1818, li16384, li1048576, li2147483647, li10000, lj0, lj1, lj10000]
  | d + 1, k, v, ps, k0, hk, hs, hnd => by
    have hn := M.1
    have Rv1 := Rv.sm hs
    have k1 : k ≤ 50 := by omega
    have one : ∃ (S : Int32) (ps' : PS) (v' : MS), MK n S ∧ ((if w = 1 then ((fX3_size (q, iZ n, K)).bind fun r17 => (fX2_fewest r17 (iZ k) ps).bind fun x => some (x.fst, x.snd)) else ((fX2_split F (iZ k) ps (q, iZ n, K)).bind fun r16 => some (r16, ps))) : Option (Int32 × PS)) = some (S, ps') ∧ fX6_simplified (iZ a) (iZ k) (iZ w) v = some (S, v') ∧ sameM v v' ∧ ps'.1 = ps.1 := by
      by_cases e : w = 0
      · subst e
        obtain ⟨S, qq, h1, h2, h3⟩ := splitting (p := ps) Rv1 hm hc k0 k1 MF (hF v hs)
        refine ⟨S, ps, ab v qq, h1, ?_, ?_, sameM.ab v qq, rfl⟩
        · simp (disch := omega) only [h2, Mzz, Mzz2, Mtt, Mtz, Mtl, Mtx, Sum.elim_inl, Sum.elim_inr, bi_tr, bi_fa, gd_true, gd_dec, lt_def, bind_s, isb_0, isb_1, iZ_add, iZ_sub, iZ_mul, iZ_neg, lZ_add, lZ_sub, lZ_mul, iZ_lt, iZ_le, iZ_eq, lZ_lt, lZ_le, lZ_eq, iZ_64, iZ_N, inb_Z, if_pos, if_neg, ↓reduceIte, Bool.true_eq_false, Bool.false_eq_true, li0, li1, li2, li3, li4, li5, li6, li9, li10, li16, li20, li23, li24, li25, li31, li33, li44, li48, li49, li50, li51, li57, li59, li60, li63, li69, li70, li71, li72, li74, li99, li100, li119, li126, li250, li296, li297, li298, li299, li300, li301, li302, li303, li606, li1515, li1818, li16384, li1048576, li2147483647, li10000, lj0, lj1, lj10000]
        · unfold fX6_simplified
          simp (disch := omega) only [h3, Mzz, Mzz2, Mtt, Mtz, Mtl, Mtx, Sum.elim_inl, Sum.elim_inr, bi_tr, bi_fa, gd_true, gd_dec, lt_def, bind_s, isb_0, isb_1, iZ_add, iZ_sub, iZ_mul, iZ_neg, lZ_add, lZ_sub, lZ_mul, iZ_lt, iZ_le, iZ_eq, lZ_lt, lZ_le, lZ_eq, iZ_64, iZ_N, inb_Z, if_pos, if_neg, ↓reduceIte, Bool.true_eq_false, Bool.false_eq_true, li0, li1, li2, li3, li4, li5, li6, li9, li10, li16, li20, li23, li24, li25, li31, li33, li44, li48, li49, li50, li51, li57, li59, li60, li63, li69, li70, li71, li72, li74, li99, li100, li119, li126, li250, li296, li297, li298, li299, li300, li301, li302, li303, li606, li1515, li1818, li16384, li1048576, li2147483647, li10000, lj0, lj1, lj10000]
      · have e1 : w = 1 := by omega
        subst e1
        obtain ⟨C, S, cs', TT, h3⟩ := c_fewest ps.2 hn k0 k1 (hnd rfl)
        obtain ⟨v', h4, h5⟩ := r_fewest Rv1 hc hn k0 k1 (hF v hs) TT
        have fs : fX3_size (q, iZ n, K) = some (iZ n) := rfl
        have h3 : fX2_fewest (iZ n) (iZ k) ps = some (S (n - 1), (ps.1, cs')) := h3
        refine ⟨S (n - 1), (ps.1, cs'), v', TT.MK hn, ?_, ?_, h4, rfl⟩
        · simp (disch := omega) only [fs, h3, Mzz, Mzz2, Mtt, Mtz, Mtl, Mtx, Sum.elim_inl, Sum.elim_inr, bi_tr, bi_fa, gd_true, gd_dec, lt_def, bind_s, isb_0, isb_1, iZ_add, iZ_sub, iZ_mul, iZ_neg, lZ_add, lZ_sub, lZ_mul, iZ_lt, iZ_le, iZ_eq, lZ_lt, lZ_le, lZ_eq, iZ_64, iZ_N, inb_Z, if_pos, if_neg, ↓reduceIte, Bool.true_eq_false, Bool.false_eq_true, li0, li1, li2, li3, li4, li5, li6, li9, li10, li16, li20, li23, li24, li25, li31, li33, li44, li48, li49, li50, li51, li57, li59, li60, li63, li69, li70, li71, li72, li74, li99, li100, li119, li126, li250, li296, li297, li298, li299, li300, li301, li302, li303, li606, li1515, li1818, li16384, li1048576, li2147483647, li10000, lj0, lj1, lj10000]
        · unfold fX6_simplified
          simp (disch := omega) only [h5, Mzz, Mzz2, Mtt, Mtz, Mtl, Mtx, Sum.elim_inl, Sum.elim_inr, bi_tr, bi_fa, gd_true, gd_dec, lt_def, bind_s, isb_0, isb_1, iZ_add, iZ_sub, iZ_mul, iZ_neg, lZ_add, lZ_sub, lZ_mul, iZ_lt, iZ_le, iZ_eq, lZ_lt, lZ_le, lZ_eq, iZ_64, iZ_N, inb_Z, if_pos, if_neg, ↓reduceIte, Bool.true_eq_false, Bool.false_eq_true, li0, li1, li2, li3, li4, li5, li6, li9, li10, li16, li20, li23, li24, li25, li31, li33, li44, li48, li49, li50, li51, li57, li59, li60, li63, li69, li70, li71, li72, li74, li99, li100, li119, li126, li250, li296, li297, li298, li299, li300, li301, li302, li303, li606, li1515, li1818, li16384, li1048576, li2147483647, li10000, lj0, lj1, lj10000]
    obtain ⟨S, ps1, v1, MS9, f5, e5, sm9, hp9⟩ := one
    have f6 := MS9.ones.1
    have e6 := r_ones S
    have bo := MS9.ones.2
    by_cases hle : su (onz S) 0 24 ≤ many
    · refine ⟨k, ps1, v1, ?_, ?_, hs.tr sm9, k0, by omega⟩
      · refine lp_out ?_
        rw [if_neg (show ¬ 50 < k by omega)]
        simp (disch := omega) only [bX2_leastBoundFor_15, f5, f6, Mzz, Mzz2, Mtt, Mtz, Mtl, Mtx, Sum.elim_inl, Sum.elim_inr, bi_tr, bi_fa, gd_true, gd_dec, lt_def, bind_s, isb_0, isb_1, iZ_add, iZ_sub, iZ_mul, iZ_neg, lZ_add, lZ_sub, lZ_mul, iZ_lt, iZ_le, iZ_eq, lZ_lt, lZ_le, lZ_eq, iZ_64, iZ_N, inb_Z, if_pos, if_neg, ↓reduceIte, Bool.true_eq_false, Bool.false_eq_true, li0, li1, li2, li3, li4, li5, li6, li9, li10, li16, li20, li23, li24, li25, li31, li33, li44, li48, li49, li50, li51, li57, li59, li60, li63, li69, li70, li71, li72, li74, li99, li100, li119, li126, li250, li296, li297, li298, li299, li300, li301, li302, li303, li606, li1515, li1818, li16384, li1048576, li2147483647, li10000, lj0, lj1, lj10000]
      · refine lp_out ?_
        simp (disch := omega) only [bX6_leastBound_52, e5, e6, Mzz, Mzz2, Mtt, Mtz, Mtl, Mtx, Sum.elim_inl, Sum.elim_inr, bi_tr, bi_fa, gd_true, gd_dec, lt_def, bind_s, isb_0, isb_1, iZ_add, iZ_sub, iZ_mul, iZ_neg, lZ_add, lZ_sub, lZ_mul, iZ_lt, iZ_le, iZ_eq, lZ_lt, lZ_le, lZ_eq, iZ_64, iZ_N, inb_Z, if_pos, if_neg, ↓reduceIte, Bool.true_eq_false, Bool.false_eq_true, li0, li1, li2, li3, li4, li5, li6, li9, li10, li16, li20, li23, li24, li25, li31, li33, li44, li48, li49, li50, li51, li57, li59, li60, li63, li69, li70, li71, li72, li74, li99, li100, li119, li126, li250, li296, li297, li298, li299, li300, li301, li302, li303, li606, li1515, li1818, li16384, li1048576, li2147483647, li10000, lj0, lj1, lj10000]
    · obtain ⟨y, ps2, v2, h1, h2, h3⟩ := least_both Rv hm hc M MF hF hw hma d (k + 1) v1 ps1 (by omega) (by omega) (hs.tr sm9) (fun e => by rw [hp9]; exact hnd e)
      refine ⟨y, ps2, v2, ?_, ?_, h3⟩
      · refine lp_in (t := (iZ (k + 1), ps1)) ?_ h1
        simp (disch := omega) only [bX2_leastBoundFor_15, f5, f6, Mzz, Mzz2, Mtt, Mtz, Mtl, Mtx, Sum.elim_inl, Sum.elim_inr, bi_tr, bi_fa, gd_true, gd_dec, lt_def, bind_s, isb_0, isb_1, iZ_add, iZ_sub, iZ_mul, iZ_neg, lZ_add, lZ_sub, lZ_mul, iZ_lt, iZ_le, iZ_eq, lZ_lt, lZ_le, lZ_eq, iZ_64, iZ_N, inb_Z, if_pos, if_neg, ↓reduceIte, Bool.true_eq_false, Bool.false_eq_true, li0, li1, li2, li3, li4, li5, li6, li9, li10, li16, li20, li23, li24, li25, li31, li33, li44, li48, li49, li50, li51, li57, li59, li60, li63, li69, li70, li71, li72, li74, li99, li100, li119, li126, li250, li296, li297, li298, li299, li300, li301, li302, li303, li606, li1515, li1818, li16384, li1048576, li2147483647, li10000, lj0, lj1, lj10000]
      · refine lp_in (t := (iZ (k + 1), v1)) ?_ h2
        simp (disch := omega) only [bX6_leastBound_52, e5, e6, Mzz, Mzz2, Mtt, Mtz, Mtl, Mtx, Sum.elim_inl, Sum.elim_inr, bi_tr, bi_fa, gd_true, gd_dec, lt_def, bind_s, isb_0, isb_1, iZ_add, iZ_sub, iZ_mul, iZ_neg, lZ_add, lZ_sub, lZ_mul, iZ_lt, iZ_le, iZ_eq, lZ_lt, lZ_le, lZ_eq, iZ_64, iZ_N, inb_Z, if_pos, if_neg, ↓reduceIte, Bool.true_eq_false, Bool.false_eq_true, li0, li1, li2, li3, li4, li5, li6, li9, li10, li16, li20, li23, li24, li25, li31, li33, li44, li48, li49, li50, li51, li57, li59, li60, li63, li69, li70, li71, li72, li74, li99, li100, li119, li126, li250, li296, li297, li298, li299, li300, li301, li302, li303, li606, li1515, li1818, li16384, li1048576, li2147483647, li10000, lj0, lj1, lj10000]
theorem g_leastBound (G : GR u ts hs ns m) (p1 p2 p3 : Int32) : ∃ (o : (Nat × PS) ⊕ (Int32 × PS)) (b : Int32) (m' : MS), fX5_leastBound p1 p2 p3 u ps = some o ∧ fX6_leastBound p1 p2 p3 m = some (b, m') ∧ Gst g [0, 1] D (obX5_leastBound g D R u ts bs ps hs ns o) b m' := by
  obtain ⟨a, rfl, A⟩ := iZ_B p1
  obtain ⟨many, rfl, B⟩ := iZ_B p2
  obtain ⟨w, rfl, W⟩ := iZ_B p3
  obtain ⟨⟨sc, S⟩, -⟩ := id G
  have hsc := S.1
  by_cases ha : 0 ≤ a ∧ a < sc
  · obtain ⟨n, N, K, q, hst, hm, M, hc, Rm⟩ := S.rms ha.1 ha.2
    have hn := M.1
    have hi5 : a.toNat < 5 := by omega
    have f1 := exY A S ha
    have e1 := isY A S ha
    by_cases hb9 : 2 ≤ many ∧ many ≤ 24
    · have f2 := btwY B (lo := 2) (hi := 24) (by omega) (by omega) hb9
      have e2 := inY B (lo := 2) (hi := 24) (by omega) (by omega) hb9
      by_cases hw : 0 ≤ w ∧ w ≤ 1
      · have f3 := wayY W hw
        have e3 := inY W (lo := 0) (hi := 1) (by omega) (by omega) hw
        have Rm1 : RMs (M_s_thrown m (iZ 0)) a n N K := Rm
        obtain ⟨F, MF, f4, e4⟩ := fix_both S ha hst hm M hc
        obtain ⟨ps0, f5, hnd⟩ : ∃ ps0 : PS, ((if w = 1 then ((fX2_measure F ps (q, iZ n, K)).bind fun u3 => some u3) else (some ps)) : Option PS) = some ps0 ∧ (w = 1 → ∀ f t : Int, 0 ≤ f → f < t → t < n → NdOk ps0.1 N F f t) := by
          by_cases e : w = 1
          · subst e
            obtain ⟨nd, h1, h2⟩ := c_measure (K := K) (F := F) hm hc hn ps
            refine ⟨(nd, ps.2), ?_, fun _ => h2⟩
            simp (disch := omega) only [h1, Mzz, Mzz2, Mtt, Mtz, Mtl, Mtx, Sum.elim_inl, Sum.elim_inr, bi_tr, bi_fa, gd_true, gd_dec, lt_def, bind_s, isb_0, isb_1, iZ_add, iZ_sub, iZ_mul, iZ_neg, lZ_add, lZ_sub, lZ_mul, iZ_lt, iZ_le, iZ_eq, lZ_lt, lZ_le, lZ_eq, iZ_64, iZ_N, inb_Z, if_pos, if_neg, ↓reduceIte, Bool.true_eq_false, Bool.false_eq_true, li0, li1, li2, li3, li4, li5, li6, li9, li10, li16, li20, li23, li24, li25, li31, li33, li44, li48, li49, li50, li51, li57, li59, li60, li63, li69, li70, li71, li72, li74, li99, li100, li119, li126, li250, li296, li297, li298, li299, li300, li301, li302, li303, li606, li1515, li1818, li16384, li1048576, li2147483647, li10000, lj0, lj1, lj10000]
          · refine ⟨ps, ?_, fun q => absurd q e⟩
            simp (disch := omega) only [Mzz, Mzz2, Mtt, Mtz, Mtl, Mtx, Sum.elim_inl, Sum.elim_inr, bi_tr, bi_fa, gd_true, gd_dec, lt_def, bind_s, isb_0, isb_1, iZ_add, iZ_sub, iZ_mul, iZ_neg, lZ_add, lZ_sub, lZ_mul, iZ_lt, iZ_le, iZ_eq, lZ_lt, lZ_le, lZ_eq, iZ_64, iZ_N, inb_Z, if_pos, if_neg, ↓reduceIte, Bool.true_eq_false, Bool.false_eq_true, li0, li1, li2, li3, li4, li5, li6, li9, li10, li16, li20, li23, li24, li25, li31, li33, li44, li48, li49, li50, li51, li57, li59, li60, li63, li69, li70, li71, li72, li74, li99, li100, li119, li126, li250, li296, li297, li298, li299, li300, li301, li302, li303, li606, li1515, li1818, li16384, li1048576, li2147483647, li10000, lj0, lj1, lj10000]
        obtain ⟨y, ps', v', f6, e6, sm9, y0, y1⟩ := least_both Rm1 hm hc M MF (fun v sv => e4 v sv.1 (Rm1.sm sv)) hw hb9 51 0 (M_s_thrown m (iZ 0)) ps0 (by omega) (by omega) (sameM.rf _) hnd
        refine ⟨.inr (iZ (if 50 < y then -1 else y), ps'), iZ (if 50 < y then -1 else y), v', ?_, ?_, Gst.r ?_ (fun _ => WB.mk (GR.sm (G.th (iZ 0)) sm9))⟩
        · unfold fX5_leastBound fX2_leastBoundFor
          simp (disch := omega) only [f1, f2, f3, f4, hst, f5, f6, Mzz, Mzz2, Mtt, Mtz, Mtl, Mtx, Sum.elim_inl, Sum.elim_inr, bi_tr, bi_fa, gd_true, gd_dec, lt_def, bind_s, isb_0, isb_1, iZ_add, iZ_sub, iZ_mul, iZ_neg, lZ_add, lZ_sub, lZ_mul, iZ_lt, iZ_le, iZ_eq, lZ_lt, lZ_le, lZ_eq, iZ_64, iZ_N, inb_Z, if_pos, if_neg, ↓reduceIte, Bool.true_eq_false, Bool.false_eq_true, li0, li1, li2, li3, li4, li5, li6, li9, li10, li16, li20, li23, li24, li25, li31, li33, li44, li48, li49, li50, li51, li57, li59, li60, li63, li69, li70, li71, li72, li74, li99, li100, li119, li126, li250, li296, li297, li298, li299, li300, li301, li302, li303, li606, li1515, li1818, li16384, li1048576, li2147483647, li10000, lj0, lj1, lj10000]
        · unfold fX6_leastBound
          by_cases e : 50 < y
          · simp (disch := omega) only [e1, e2, e3, e6, Mzz, Mzz2, Mtt, Mtz, Mtl, Mtx, Sum.elim_inl, Sum.elim_inr, bi_tr, bi_fa, gd_true, gd_dec, lt_def, bind_s, isb_0, isb_1, iZ_add, iZ_sub, iZ_mul, iZ_neg, lZ_add, lZ_sub, lZ_mul, iZ_lt, iZ_le, iZ_eq, lZ_lt, lZ_le, lZ_eq, iZ_64, iZ_N, inb_Z, if_pos, if_neg, ↓reduceIte, Bool.true_eq_false, Bool.false_eq_true, li0, li1, li2, li3, li4, li5, li6, li9, li10, li16, li20, li23, li24, li25, li31, li33, li44, li48, li49, li50, li51, li57, li59, li60, li63, li69, li70, li71, li72, li74, li99, li100, li119, li126, li250, li296, li297, li298, li299, li300, li301, li302, li303, li606, li1515, li1818, li16384, li1048576, li2147483647, li10000, lj0, lj1, lj10000]
          · simp (disch := omega) only [e1, e2, e3, e6, Mzz, Mzz2, Mtt, Mtz, Mtl, Mtx, Sum.elim_inl, Sum.elim_inr, bi_tr, bi_fa, gd_true, gd_dec, lt_def, bind_s, isb_0, isb_1, iZ_add, iZ_sub, iZ_mul, iZ_neg, lZ_add, lZ_sub, lZ_mul, iZ_lt, iZ_le, iZ_eq, lZ_lt, lZ_le, lZ_eq, iZ_64, iZ_N, inb_Z, if_pos, if_neg, ↓reduceIte, Bool.true_eq_false, Bool.false_eq_true, li0, li1, li2, li3, li4, li5, li6, li9, li10, li16, li20, li23, li24, li25, li31, li33, li44, li48, li49, li50, li51, li57, li59, li60, li63, li69, li70, li71, li72, li74, li99, li100, li119, li126, li250, li296, li297, li298, li299, li300, li301, li302, li303, li606, li1515, li1818, li16384, li1048576, li2147483647, li10000, lj0, lj1, lj10000]
        · rw [sm9.2.2.2.2.2.2.2]
      · have f3 := wayN W hw
        have e3 := inN W (lo := 0) (hi := 1) (by omega) (by omega) hw
        refine ⟨.inl (1, ps), iZ 0, M_s_thrown m (iZ 2), ?_, ?_, Gst.l 1 rfl rfl (fun _ => WB.mk G)⟩
        · unfold fX5_leastBound
          simp (disch := omega) only [f1, f2, f3, Mzz, Mzz2, Mtt, Mtz, Mtl, Mtx, Sum.elim_inl, Sum.elim_inr, bi_tr, bi_fa, gd_true, gd_dec, lt_def, bind_s, isb_0, isb_1, iZ_add, iZ_sub, iZ_mul, iZ_neg, lZ_add, lZ_sub, lZ_mul, iZ_lt, iZ_le, iZ_eq, lZ_lt, lZ_le, lZ_eq, iZ_64, iZ_N, inb_Z, if_pos, if_neg, ↓reduceIte, Bool.true_eq_false, Bool.false_eq_true, li0, li1, li2, li3, li4, li5, li6, li9, li10, li16, li20, li23, li24, li25, li31, li33, li44, li48, li49, li50, li51, li57, li59, li60, li63, li69, li70, li71, li72, li74, li99, li100, li119, li126, li250, li296, li297, li298, li299, li300, li301, li302, li303, li606, li1515, li1818, li16384, li1048576, li2147483647, li10000, lj0, lj1, lj10000]
        · unfold fX6_leastBound
          simp (disch := omega) only [e1, e2, e3, Mzz, Mzz2, Mtt, Mtz, Mtl, Mtx, Sum.elim_inl, Sum.elim_inr, bi_tr, bi_fa, gd_true, gd_dec, lt_def, bind_s, isb_0, isb_1, iZ_add, iZ_sub, iZ_mul, iZ_neg, lZ_add, lZ_sub, lZ_mul, iZ_lt, iZ_le, iZ_eq, lZ_lt, lZ_le, lZ_eq, iZ_64, iZ_N, inb_Z, if_pos, if_neg, ↓reduceIte, Bool.true_eq_false, Bool.false_eq_true, li0, li1, li2, li3, li4, li5, li6, li9, li10, li16, li20, li23, li24, li25, li31, li33, li44, li48, li49, li50, li51, li57, li59, li60, li63, li69, li70, li71, li72, li74, li99, li100, li119, li126, li250, li296, li297, li298, li299, li300, li301, li302, li303, li606, li1515, li1818, li16384, li1048576, li2147483647, li10000, lj0, lj1, lj10000]
    · have f2 := btwN B (lo := 2) (hi := 24) (by omega) (by omega) hb9
      have e2 := inN B (lo := 2) (hi := 24) (by omega) (by omega) hb9
      refine ⟨.inl (1, ps), iZ 0, M_s_thrown m (iZ 2), ?_, ?_, Gst.l 1 rfl rfl (fun _ => WB.mk G)⟩
      · unfold fX5_leastBound
        simp (disch := omega) only [f1, f2, Mzz, Mzz2, Mtt, Mtz, Mtl, Mtx, Sum.elim_inl, Sum.elim_inr, bi_tr, bi_fa, gd_true, gd_dec, lt_def, bind_s, isb_0, isb_1, iZ_add, iZ_sub, iZ_mul, iZ_neg, lZ_add, lZ_sub, lZ_mul, iZ_lt, iZ_le, iZ_eq, lZ_lt, lZ_le, lZ_eq, iZ_64, iZ_N, inb_Z, if_pos, if_neg, ↓reduceIte, Bool.true_eq_false, Bool.false_eq_true, li0, li1, li2, li3, li4, li5, li6, li9, li10, li16, li20, li23, li24, li25, li31, li33, li44, li48, li49, li50, li51, li57, li59, li60, li63, li69, li70, li71, li72, li74, li99, li100, li119, li126, li250, li296, li297, li298, li299, li300, li301, li302, li303, li606, li1515, li1818, li16384, li1048576, li2147483647, li10000, lj0, lj1, lj10000]
      · unfold fX6_leastBound
        simp (disch := omega) only [e1, e2, Mzz, Mzz2, Mtt, Mtz, Mtl, Mtx, Sum.elim_inl, Sum.elim_inr, bi_tr, bi_fa, gd_true, gd_dec, lt_def, bind_s, isb_0, isb_1, iZ_add, iZ_sub, iZ_mul, iZ_neg, lZ_add, lZ_sub, lZ_mul, iZ_lt, iZ_le, iZ_eq, lZ_lt, lZ_le, lZ_eq, iZ_64, iZ_N, inb_Z, if_pos, if_neg, ↓reduceIte, Bool.true_eq_false, Bool.false_eq_true, li0, li1, li2, li3, li4, li5, li6, li9, li10, li16, li20, li23, li24, li25, li31, li33, li44, li48, li49, li50, li51, li57, li59, li60, li63, li69, li70, li71, li72, li74, li99, li100, li119, li126, li250, li296, li297, li298, li299, li300, li301, li302, li303, li606, li1515, li1818, li16384, li1048576, li2147483647, li10000, lj0, lj1, lj10000]
  · have f1 := exN A S ha
    have e1 := isN A S ha
    refine ⟨.inl (0, ps), iZ 0, M_s_thrown m (iZ 1), ?_, ?_, Gst.l 0 rfl rfl (fun _ => WB.mk G)⟩
    · unfold fX5_leastBound
      simp (disch := omega) only [f1, Mzz, Mzz2, Mtt, Mtz, Mtl, Mtx, Sum.elim_inl, Sum.elim_inr, bi_tr, bi_fa, gd_true, gd_dec, lt_def, bind_s, isb_0, isb_1, iZ_add, iZ_sub, iZ_mul, iZ_neg, lZ_add, lZ_sub, lZ_mul, iZ_lt, iZ_le, iZ_eq, lZ_lt, lZ_le, lZ_eq, iZ_64, iZ_N, inb_Z, if_pos, if_neg, ↓reduceIte, Bool.true_eq_false, Bool.false_eq_true, li0, li1, li2, li3, li4, li5, li6, li9, li10, li16, li20, li23, li24, li25, li31, li33, li44, li48, li49, li50, li51, li57, li59, li60, li63, li69, li70, li71, li72, li74, li99, li100, li119, li126, li250, li296, li297, li298, li299, li300, li301, li302, li303, li606, li1515, li1818, li16384, li1048576, li2147483647, li10000, lj0, lj1, lj10000]
    · unfold fX6_leastBound
      simp (disch := omega) only [e1, Mzz, Mzz2, Mtt, Mtz, Mtl, Mtx, Sum.elim_inl, Sum.elim_inr, bi_tr, bi_fa, gd_true, gd_dec, lt_def, bind_s, isb_0, isb_1, iZ_add, iZ_sub, iZ_mul, iZ_neg, lZ_add, lZ_sub, lZ_mul, iZ_lt, iZ_le, iZ_eq, lZ_lt, lZ_le, lZ_eq, iZ_64, iZ_N, inb_Z, if_pos, if_neg, ↓reduceIte, Bool.true_eq_false, Bool.false_eq_true, li0, li1, li2, li3, li4, li5, li6, li9, li10, li16, li20, li23, li24, li25, li31, li33, li44, li48, li49, li50, li51, li57, li59, li60, li63, li69, li70, li71, li72, li74, li99, li100, li119, li126, li250, li296, li297, li298, li299, li300, li301, li302, li303, li606, li1515, li1818, li16384, li1048576, li2147483647, li10000, lj0, lj1, lj10000]
end Q
end
