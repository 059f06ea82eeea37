section
/-! the whole: strokes go, are simplified; settings; saved states and snapshots -/
theorem SR.note {u : ShS} {z : Nat → Int32} {sc : Int} (h : SR u z sc) (d : Int32) : SR (u.1, Sh_values u, Sh_strokeCount u, Sh_simplified u + 1, Sh_dropped u + d) (upd (upd z (301 : Int).toNat (z (301 : Int).toNat + 1)) (302 : Int).toNat (z (302 : Int).toNat + d)) sc := by
  obtain ⟨h1, h2, h3, h4, h5, h6, h7⟩ := h
  refine ⟨h1, h2, by rw [upd_n (by omega), upd_n (by omega)]; exact h3, fun s s0 s1 => (h4 s s0 s1).mv (fun j j0 j1 => by rw [upd_n (by omega), upd_n (by omega)]), fun i i0 i1 => ?_, ?_, ?_⟩
  · obtain ⟨v, a1, a2, a3⟩ := h5 i i0 i1
    exact ⟨v, a1, by rw [upd_n (by omega), upd_n (by omega)]; exact a2, a3⟩
  · rw [upd_n (by omega), upd_s, ← h6]
  · rw [upd_s, ← h7]
theorem SR.setv {u : ShS} {z : Nat → Int32} {sc i v : Int} (h : SR u z sc) (i0 : 0 ≤ i) (i1 : i < 4) (v0 : vlo i ≤ v) (v1 : v ≤ vhi i) : SR (Sh_s_values u (upd (Sh_values u) i.toNat (iZ v))) (upd z (297 + i).toNat (iZ v)) sc := by
  obtain ⟨h1, h2, h3, h4, h5, h6, h7⟩ := h
  refine ⟨h1, h2, by rw [upd_n (by omega)]; exact h3, fun s s0 s1 => (h4 s s0 s1).mv (fun j j0 j1 => by rw [upd_n (by omega)]), fun k k0 k1 => ?_, by rw [upd_n (by omega)]; exact h6, by rw [upd_n (by omega)]; exact h7⟩
  by_cases e : k = i
  · subst e
    exact ⟨v, upd_s, upd_s, v0, v1⟩
  · obtain ⟨w, a1, a2, a3⟩ := h5 k k0 k1
    exact ⟨w, by show upd _ _ _ _ = _; rw [upd_n (by omega)]; exact a1, by rw [upd_n (by omega)]; exact a2, a3⟩
theorem cT1 {i : Int} (i0 : 0 ≤ i) (i1 : i < 4) : fX5_cellT1 (iZ i) = some (iZ (vlo i)) := by
  have : i = 0 ∨ i = 1 ∨ i = 2 ∨ i = 3 := by omega
  rcases this with rfl | rfl | rfl | rfl <;> rfl
theorem cT2 {i : Int} (i0 : 0 ≤ i) (i1 : i < 4) : fX5_cellT2 (iZ i) = some (iZ (vhi i)) := by
  have : i = 0 ∨ i = 1 ∨ i = 2 ∨ i = 3 := by omega
  rcases this with rfl | rfl | rfl | rfl <;> rfl
theorem rMost {i : Int} (i0 : 0 ≤ i) (i1 : i < 4) : fX6_most (iZ i) = some (iZ (vhi i)) := by
  have : i = 0 ∨ i = 1 ∨ i = 2 ∨ i = 3 := by omega
  rcases this with rfl | rfl | rfl | rfl <;> rfl
theorem rLeast {i : Int} (i0 : 0 ≤ i) (i1 : i < 4) : ((if i = 2 then some (iZ 1) else some (iZ 0)) : Option Int32) = some (iZ (vlo i)) := by
  have : i = 0 ∨ i = 1 ∨ i = 2 ∨ i = 3 := by omega
  rcases this with rfl | rfl | rfl | rfl <;> rfl
theorem v_b {i : Int} (i0 : 0 ≤ i) (i1 : i < 4) : (0 ≤ vlo i ∧ vlo i ≤ 1) ∧ 20 ≤ vhi i ∧ vhi i ≤ 100 := by
  have : i = 0 ∨ i = 1 ∨ i = 2 ∨ i = 3 := by omega
  rcases this with rfl | rfl | rfl | rfl <;> decide
theorem Sd_st (u : ShS) (d : Int32) (i : Nat) : Sh_st (Sh_s_dropped u d) i = Sh_st u i := rfl
theorem Sm_st (u : ShS) (d : Int32) (i : Nat) : Sh_st (Sh_s_simplified u d) i = Sh_st u i := rfl
section Q
variable {g : kG} {D : Nat → Nat → Nat} {R : kAd} {u : ShS} {ts : TS} {bs : SS} {ps : PS} {hs : HS} {ns : NS} {m : MS}
theorem g_erase (G : GR u ts hs ns m) (p1 : Int32) : ∃ (o : (Nat × ShS × HS) ⊕ (Int32 × ShS × HS)) (b : Int32) (m' : MS), fX5_erase p1 u hs = some o ∧ fX6_erase p1 m = some (b, m') ∧ Gst g [0] D (obX5_erase g D R u ts bs ps hs ns o) b m' := by
  obtain ⟨a, rfl, A⟩ := iZ_B p1
  obtain ⟨⟨sc, S⟩, -⟩ := id G
  have hsc := S.1
  have hz : M_z m (296 : Int).toNat = iZ sc := S.2.2.1
  by_cases ha : 0 ≤ a ∧ a < sc
  · have f1 := rsY A S ha
    have e1 := isY A S ha
    obtain ⟨hs', m2, s1, s2, s3, s4, -, -, -, s5⟩ := g_rec2 (G.th (iZ 0))
    have s3 : M_z m2 = M_z m := s3
    have hz2 : M_z m2 (296 : Int).toNat = iZ sc := by rw [s3]; exact hz
    obtain ⟨v, f5, f6, f7⟩ := c_close S ha.1 ha.2
    have hv : Sh_strokeCount v = iZ (sc - 1) := by
      show v.2.2.1 = _
      rw [f6]
    have hu : M_z (M_s_z m2 (upd (M_z m2) (296 : Int).toNat (iZ (sc - 1)))) (296 : Int).toNat = iZ (sc - 1) := by
      show upd (M_z m2) (296 : Int).toNat (iZ (sc - 1)) (296 : Int).toNat = _
      exact upd_s
    obtain ⟨z, e5, e6, e7⟩ := r_eraseL hu ha.1 (by omega) (by omega)
    have e8 : z (296 : Int).toNat = iZ (sc - 1) := by
      rw [e7 _ (by omega) (by omega)]
      exact hu
    have old : ∀ j : Int, 0 ≤ j → j ≠ 296 → M_z (M_s_z m2 (upd (M_z m2) (296 : Int).toNat (iZ (sc - 1)))) j.toNat = M_z m j.toNat := fun j j0 j1 => by
      show upd _ _ _ _ = _
      rw [upd_n (by omega), s3]
    have SX : SR v z (sc - 1) := by
      obtain ⟨h1, h2, h3, h4, h5, h6, h7⟩ := S
      have ev : v = (v.1, Sh_values u, iZ (sc - 1), Sh_simplified u, Sh_dropped u) := Prod.ext rfl f6
      refine ⟨by omega, hv, e8, fun s s0 s1 => ?_, fun i i0 i1 => ?_, ?_, ?_⟩
      · have := f7 s s0 s1
        by_cases e : s < a
        · rw [if_pos e] at this
          exact this.mv (fun j j0 j1 => by rw [e7 _ (by omega) (by omega), old _ (by omega) (by omega)])
        · rw [if_neg e] at this
          exact this.mv (fun j j0 j1 => by
            rw [e6 _ (by omega) (by omega), old _ (by omega) (by omega)]
            congr 2
            omega)
      · obtain ⟨w, a1, a2, a3⟩ := h5 i i0 i1
        refine ⟨w, ?_, ?_, a3⟩
        · rw [ev]
          exact a1
        · rw [e7 _ (by omega) (by omega), old _ (by omega) (by omega)]
          exact a2
      · rw [e7 _ (by omega) (by omega), old _ (by omega) (by omega), ev]
        exact h6
      · rw [e7 _ (by omega) (by omega), old _ (by omega) (by omega), ev]
        exact h7
    refine ⟨.inr (iZ (sc - 1), v, hs'), iZ (sc - 1), M_s_z m2 z, ?_, ?_, Gst.r (show M_thrown m2 = iZ 0 from s4) (fun _ => WB.mk (s5 _ _ _ SX))⟩
    · unfold fX5_erase fX1_strokeCount
      simp (disch := omega) only [f1, s1, f5, hv, Mzz, Mzz2, Mtt, Mtz, Mtl, Mtx, Sum.elim_inl, Sum.elim_inr, bi_tr, bi_fa, Sh_same, Sh_ss, Sd_st, Sm_st, gd_true, gd_dec, lt_def, bind_s, isb_0, isb_1, iZ_add, iZ_sub, iZ_mul, iZ_neg, lZ_add, lZ_sub, lZ_mul, iZ_lt, iZ_le, iZ_eq, lZ_lt, lZ_le, lZ_eq, iZ_64, iZ_N, inb_Z, if_pos, if_neg, ↓reduceIte, Bool.true_eq_false, Bool.false_eq_true, li0, li1, li2, li3, li4, li5, li6, li9, li10, li16, li20, li23, li24, li25, li31, li33, li44, li48, li49, li50, li51, li57, li59, li60, li63, li69, li70, li71, li72, li74, li99, li100, li119, li126, li250, li296, li297, li298, li299, li300, li301, li302, li303, li606, li1515, li1818, li16384, li1048576, li2147483647, li10000, lj0, lj1, lj10000]
    · unfold fX6_erase
      simp (disch := omega) only [e1, s2, hz2, e5, e8, Mzz, Mzz2, Mtt, Mtz, Mtl, Mtx, Sum.elim_inl, Sum.elim_inr, bi_tr, bi_fa, Sh_same, Sh_ss, Sd_st, Sm_st, gd_true, gd_dec, lt_def, bind_s, isb_0, isb_1, iZ_add, iZ_sub, iZ_mul, iZ_neg, lZ_add, lZ_sub, lZ_mul, iZ_lt, iZ_le, iZ_eq, lZ_lt, lZ_le, lZ_eq, iZ_64, iZ_N, inb_Z, if_pos, if_neg, ↓reduceIte, Bool.true_eq_false, Bool.false_eq_true, li0, li1, li2, li3, li4, li5, li6, li9, li10, li16, li20, li23, li24, li25, li31, li33, li44, li48, li49, li50, li51, li57, li59, li60, li63, li69, li70, li71, li72, li74, li99, li100, li119, li126, li250, li296, li297, li298, li299, li300, li301, li302, li303, li606, li1515, li1818, li16384, li1048576, li2147483647, li10000, lj0, lj1, lj10000]
  · have f1 := rsN A S ha
    have e1 := isN A S ha
    refine ⟨.inl (0, u, hs), iZ 0, M_s_thrown m (iZ 1), ?_, ?_, Gst.l 0 rfl rfl (fun _ => WB.mk G)⟩
    · unfold fX5_erase
      simp (disch := omega) only [f1, Mzz, Mzz2, Mtt, Mtz, Mtl, Mtx, Sum.elim_inl, Sum.elim_inr, bi_tr, bi_fa, Sh_same, Sh_ss, Sd_st, Sm_st, gd_true, gd_dec, lt_def, bind_s, isb_0, isb_1, iZ_add, iZ_sub, iZ_mul, iZ_neg, lZ_add, lZ_sub, lZ_mul, iZ_lt, iZ_le, iZ_eq, lZ_lt, lZ_le, lZ_eq, iZ_64, iZ_N, inb_Z, if_pos, if_neg, ↓reduceIte, Bool.true_eq_false, Bool.false_eq_true, li0, li1, li2, li3, li4, li5, li6, li9, li10, li16, li20, li23, li24, li25, li31, li33, li44, li48, li49, li50, li51, li57, li59, li60, li63, li69, li70, li71, li72, li74, li99, li100, li119, li126, li250, li296, li297, li298, li299, li300, li301, li302, li303, li606, li1515, li1818, li16384, li1048576, li2147483647, li10000, lj0, lj1, lj10000]
    · unfold fX6_erase
      simp (disch := omega) only [e1, Mzz, Mzz2, Mtt, Mtz, Mtl, Mtx, Sum.elim_inl, Sum.elim_inr, bi_tr, bi_fa, Sh_same, Sh_ss, Sd_st, Sm_st, gd_true, gd_dec, lt_def, bind_s, isb_0, isb_1, iZ_add, iZ_sub, iZ_mul, iZ_neg, lZ_add, lZ_sub, lZ_mul, iZ_lt, iZ_le, iZ_eq, lZ_lt, lZ_le, lZ_eq, iZ_64, iZ_N, inb_Z, if_pos, if_neg, ↓reduceIte, Bool.true_eq_false, Bool.false_eq_true, li0, li1, li2, li3, li4, li5, li6, li9, li10, li16, li20, li23, li24, li25, li31, li33, li44, li48, li49, li50, li51, li57, li59, li60, li63, li69, li70, li71, li72, li74, li99, li100, li119, li126, li250, li296, li297, li298, li299, li300, li301, li302, li303, li606, li1515, li1818, li16384, li1048576, li2147483647, li10000, lj0, lj1, lj10000]
theorem g_simplify (G : GR u ts hs ns m) (p1 p2 : Int32) : ∃ (o : (Nat × ShS × PS × HS) ⊕ (Int32 × ShS × PS × HS)) (b : Int32) (m' : MS), fX5_simplify p1 p2 u ps hs = some o ∧ fX6_simplify p1 p2 m = some (b, m') ∧ Gst g [0, 1] D (obX5_simplify g D R u ts bs ps hs ns o) b m' := by
  obtain ⟨a, rfl, A⟩ := iZ_B p1
  obtain ⟨w, rfl, W⟩ := iZ_B p2
  obtain ⟨⟨sc, S⟩, -⟩ := id G
  have hsc := S.1
  have hz : M_z m (296 : Int).toNat = iZ sc := S.2.2.1
  by_cases ha : 0 ≤ a ∧ a < sc
  · obtain ⟨n, N, K, q, hst, hm, M, hc, Rm⟩ := S.rms ha.1 ha.2
    have hn := M.1
    have hi5 : a.toNat < 5 := by omega
    have f1 := exY A S ha
    have e1 := isY A S ha
    have fs : ∀ L : Int32, fX3_size (q, iZ n, L) = some (iZ n) := fun L => rfl
    by_cases hw : 0 ≤ w ∧ w ≤ 1
    · have f2 := wayY W hw
      have e2 := inY W (lo := 0) (hi := 1) (by omega) (by omega) hw
      obtain ⟨hs', m2, s1, s2, s3, s4, -, -, -, s5⟩ := g_rec2 (G.th (iZ 0))
      have s3 : M_z m2 = M_z m := s3
      have R2 : RMs m2 a n N K := ⟨Rm.1, by rw [s3]; exact Rm.2⟩
      have h4 : 0 ≤ a ∧ a < 4 := by omega
      obtain ⟨F, MF, f3, e3⟩ := fix_both S ha hst hm M hc
      obtain ⟨bd, f4, b1, b2, b3⟩ := S.v0
      have b1' : M_z m2 (297 : Int).toNat = iZ bd := by rw [s3]; exact b1
      obtain ⟨SS9, ps', v', MS9, f5, e5, sm9⟩ := simp_both R2 hm hc M MF (e3 m2 s3 R2) b2 b3 hw ps
      have f6 : fX3_keepOnly SS9 (q, iZ n, K) = some (q, iZ n, SS9) := rfl
      have f7 : fX3_keptCount (q, iZ n, SS9) = some (iZ (su (onz SS9) 0 24)) := by
        have := MS9.ones.1
        unfold fX3_keptCount
        simp (disch := omega) only [S_kept, this, Mzz, Mzz2, Mtt, Mtz, Mtl, Mtx, Sum.elim_inl, Sum.elim_inr, bi_tr, bi_fa, Sh_same, Sh_ss, Sd_st, Sm_st, gd_true, gd_dec, lt_def, bind_s, isb_0, isb_1, iZ_add, iZ_sub, iZ_mul, iZ_neg, lZ_add, lZ_sub, lZ_mul, iZ_lt, iZ_le, iZ_eq, lZ_lt, lZ_le, lZ_eq, iZ_64, iZ_N, inb_Z, if_pos, if_neg, ↓reduceIte, Bool.true_eq_false, Bool.false_eq_true, li0, li1, li2, li3, li4, li5, li6, li9, li10, li16, li20, li23, li24, li25, li31, li33, li44, li48, li49, li50, li51, li57, li59, li60, li63, li69, li70, li71, li72, li74, li99, li100, li119, li126, li250, li296, li297, li298, li299, li300, li301, li302, li303, li606, li1515, li1818, li16384, li1048576, li2147483647, li10000, lj0, lj1, lj10000]
      have e6 := r_ones SS9
      have zv : M_z v' = M_z m := sm9.1.trans s3
      have R3 := R2.sm sm9
      obtain ⟨z0, z1, zN⟩ := R3.2
      have so : SameOut (M_z m) (upd (M_z v') (74 * a + 1).toNat SS9) a := by
        rw [← zv]
        exact SameOut.up _ (by omega) (by omega) ha.1
      have SX := S.set ha.1 ha.2 so ⟨n, N, SS9, q, rfl, hm, MS9, hc, by rw [upd_n (by omega)]; exact z0, upd_s, fun j j0 j1 => by
        rw [upd_n (by omega)]
        exact zN j j0 j1⟩
      have SY := SX.note (iZ (n - su (onz SS9) 0 24))
      have e7 : ∀ z : Nat → Int32, z (74 * a).toNat = iZ n → fX6_points (iZ a) (M_s_z v' z) = some (iZ n) := fun z h => by
        unfold fX6_points
        simp (disch := omega) only [h, Mzz, Mzz2, Mtt, Mtz, Mtl, Mtx, Sum.elim_inl, Sum.elim_inr, bi_tr, bi_fa, Sh_same, Sh_ss, Sd_st, Sm_st, gd_true, gd_dec, lt_def, bind_s, isb_0, isb_1, iZ_add, iZ_sub, iZ_mul, iZ_neg, lZ_add, lZ_sub, lZ_mul, iZ_lt, iZ_le, iZ_eq, lZ_lt, lZ_le, lZ_eq, iZ_64, iZ_N, inb_Z, if_pos, if_neg, ↓reduceIte, Bool.true_eq_false, Bool.false_eq_true, li0, li1, li2, li3, li4, li5, li6, li9, li10, li16, li20, li23, li24, li25, li31, li33, li44, li48, li49, li50, li51, li57, li59, li60, li63, li69, li70, li71, li72, li74, li99, li100, li119, li126, li250, li296, li297, li298, li299, li300, li301, li302, li303, li606, li1515, li1818, li16384, li1048576, li2147483647, li10000, lj0, lj1, lj10000]
      have e8 : fX6_points (iZ a) (M_s_z v' (upd (upd (M_z v') (74 * a + 1).toNat SS9) (301 : Int).toNat (upd (M_z v') (74 * a + 1).toNat SS9 (301 : Int).toNat + iZ 1))) = some (iZ n) := e7 _ (by
        rw [upd_n (by omega), upd_n (by omega)]
        exact z0)
      have e9 : upd (upd (M_z v') (74 * a + 1).toNat SS9) (301 : Int).toNat (upd (M_z v') (74 * a + 1).toNat SS9 (301 : Int).toNat + iZ 1) (302 : Int).toNat = upd (M_z v') (74 * a + 1).toNat SS9 (302 : Int).toNat := upd_n (by omega)
      obtain ⟨zf, hzf⟩ : ∃ zf : Nat → Int32, zf = upd (upd (upd (M_z v') (74 * a + 1).toNat SS9) (301 : Int).toNat (upd (M_z v') (74 * a + 1).toNat SS9 (301 : Int).toNat + 1)) (302 : Int).toNat (upd (M_z v') (74 * a + 1).toNat SS9 (302 : Int).toNat + iZ (n - su (onz SS9) 0 24)) := ⟨_, rfl⟩
      rw [← hzf] at SY
      refine ⟨.inr (iZ (su (onz SS9) 0 24), _, ps', hs'), iZ (su (onz SS9) 0 24), M_s_z v' zf, ?_, ?_, Gst.r (show M_thrown v' = iZ 0 from sm9.2.2.2.2.2.2.2.trans s4) (fun _ => WB.mk (GR.sm (s5 _ _ _ SY) (sm9.z _)))⟩
      · unfold fX5_simplify fX1_noteSimplified
        simp (disch := omega) only [f1, f2, s1, f3, f4, hst, f5, f6, fs, f7, Mzz, Mzz2, Mtt, Mtz, Mtl, Mtx, Sum.elim_inl, Sum.elim_inr, bi_tr, bi_fa, Sh_same, Sh_ss, Sd_st, Sm_st, gd_true, gd_dec, lt_def, bind_s, isb_0, isb_1, iZ_add, iZ_sub, iZ_mul, iZ_neg, lZ_add, lZ_sub, lZ_mul, iZ_lt, iZ_le, iZ_eq, lZ_lt, lZ_le, lZ_eq, iZ_64, iZ_N, inb_Z, if_pos, if_neg, ↓reduceIte, Bool.true_eq_false, Bool.false_eq_true, li0, li1, li2, li3, li4, li5, li6, li9, li10, li16, li20, li23, li24, li25, li31, li33, li44, li48, li49, li50, li51, li57, li59, li60, li63, li69, li70, li71, li72, li74, li99, li100, li119, li126, li250, li296, li297, li298, li299, li300, li301, li302, li303, li606, li1515, li1818, li16384, li1048576, li2147483647, li10000, lj0, lj1, lj10000] <;> rfl
      · rw [hzf]
        unfold fX6_simplify
        simp (disch := omega) only [e1, e2, s2, b1', e5, e6, e8, e9, Mzz, Mzz2, Mtt, Mtz, Mtl, Mtx, Sum.elim_inl, Sum.elim_inr, bi_tr, bi_fa, Sh_same, Sh_ss, Sd_st, Sm_st, gd_true, gd_dec, lt_def, bind_s, isb_0, isb_1, iZ_add, iZ_sub, iZ_mul, iZ_neg, lZ_add, lZ_sub, lZ_mul, iZ_lt, iZ_le, iZ_eq, lZ_lt, lZ_le, lZ_eq, iZ_64, iZ_N, inb_Z, if_pos, if_neg, ↓reduceIte, Bool.true_eq_false, Bool.false_eq_true, li0, li1, li2, li3, li4, li5, li6, li9, li10, li16, li20, li23, li24, li25, li31, li33, li44, li48, li49, li50, li51, li57, li59, li60, li63, li69, li70, li71, li72, li74, li99, li100, li119, li126, li250, li296, li297, li298, li299, li300, li301, li302, li303, li606, li1515, li1818, li16384, li1048576, li2147483647, li10000, lj0, lj1, lj10000]
    · have f2 := wayN W hw
      have e2 := inN W (lo := 0) (hi := 1) (by omega) (by omega) hw
      refine ⟨.inl (1, u, ps, hs), iZ 0, M_s_thrown m (iZ 2), ?_, ?_, Gst.l 1 rfl rfl (fun _ => WB.mk G)⟩
      · unfold fX5_simplify
        simp (disch := omega) only [f1, f2, Mzz, Mzz2, Mtt, Mtz, Mtl, Mtx, Sum.elim_inl, Sum.elim_inr, bi_tr, bi_fa, Sh_same, Sh_ss, Sd_st, Sm_st, gd_true, gd_dec, lt_def, bind_s, isb_0, isb_1, iZ_add, iZ_sub, iZ_mul, iZ_neg, lZ_add, lZ_sub, lZ_mul, iZ_lt, iZ_le, iZ_eq, lZ_lt, lZ_le, lZ_eq, iZ_64, iZ_N, inb_Z, if_pos, if_neg, ↓reduceIte, Bool.true_eq_false, Bool.false_eq_true, li0, li1, li2, li3, li4, li5, li6, li9, li10, li16, li20, li23, li24, li25, li31, li33, li44, li48, li49, li50, li51, li57, li59, li60, li63, li69, li70, li71, li72, li74, li99, li100, li119, li126, li250, li296, li297, li298, li299, li300, li301, li302, li303, li606, li1515, li1818, li16384, li1048576, li2147483647, li10000, lj0, lj1, lj10000]
      · unfold fX6_simplify
        simp (disch := omega) only [e1, e2, Mzz, Mzz2, Mtt, Mtz, Mtl, Mtx, Sum.elim_inl, Sum.elim_inr, bi_tr, bi_fa, Sh_same, Sh_ss, Sd_st, Sm_st, gd_true, gd_dec, lt_def, bind_s, isb_0, isb_1, iZ_add, iZ_sub, iZ_mul, iZ_neg, lZ_add, lZ_sub, lZ_mul, iZ_lt, iZ_le, iZ_eq, lZ_lt, lZ_le, lZ_eq, iZ_64, iZ_N, inb_Z, if_pos, if_neg, ↓reduceIte, Bool.true_eq_false, Bool.false_eq_true, li0, li1, li2, li3, li4, li5, li6, li9, li10, li16, li20, li23, li24, li25, li31, li33, li44, li48, li49, li50, li51, li57, li59, li60, li63, li69, li70, li71, li72, li74, li99, li100, li119, li126, li250, li296, li297, li298, li299, li300, li301, li302, li303, li606, li1515, li1818, li16384, li1048576, li2147483647, li10000, lj0, lj1, lj10000]
  · have f1 := exN A S ha
    have e1 := isN A S ha
    refine ⟨.inl (0, u, ps, hs), iZ 0, M_s_thrown m (iZ 1), ?_, ?_, Gst.l 0 rfl rfl (fun _ => WB.mk G)⟩
    · unfold fX5_simplify
      simp (disch := omega) only [f1, Mzz, Mzz2, Mtt, Mtz, Mtl, Mtx, Sum.elim_inl, Sum.elim_inr, bi_tr, bi_fa, Sh_same, Sh_ss, Sd_st, Sm_st, gd_true, gd_dec, lt_def, bind_s, isb_0, isb_1, iZ_add, iZ_sub, iZ_mul, iZ_neg, lZ_add, lZ_sub, lZ_mul, iZ_lt, iZ_le, iZ_eq, lZ_lt, lZ_le, lZ_eq, iZ_64, iZ_N, inb_Z, if_pos, if_neg, ↓reduceIte, Bool.true_eq_false, Bool.false_eq_true, li0, li1, li2, li3, li4, li5, li6, li9, li10, li16, li20, li23, li24, li25, li31, li33, li44, li48, li49, li50, li51, li57, li59, li60, li63, li69, li70, li71, li72, li74, li99, li100, li119, li126, li250, li296, li297, li298, li299, li300, li301, li302, li303, li606, li1515, li1818, li16384, li1048576, li2147483647, li10000, lj0, lj1, lj10000]
    · unfold fX6_simplify
      simp (disch := omega) only [e1, Mzz, Mzz2, Mtt, Mtz, Mtl, Mtx, Sum.elim_inl, Sum.elim_inr, bi_tr, bi_fa, Sh_same, Sh_ss, Sd_st, Sm_st, gd_true, gd_dec, lt_def, bind_s, isb_0, isb_1, iZ_add, iZ_sub, iZ_mul, iZ_neg, lZ_add, lZ_sub, lZ_mul, iZ_lt, iZ_le, iZ_eq, lZ_lt, lZ_le, lZ_eq, iZ_64, iZ_N, inb_Z, if_pos, if_neg, ↓reduceIte, Bool.true_eq_false, Bool.false_eq_true, li0, li1, li2, li3, li4, li5, li6, li9, li10, li16, li20, li23, li24, li25, li31, li33, li44, li48, li49, li50, li51, li57, li59, li60, li63, li69, li70, li71, li72, li74, li99, li100, li119, li126, li250, li296, li297, li298, li299, li300, li301, li302, li303, li606, li1515, li1818, li16384, li1048576, li2147483647, li10000, lj0, lj1, lj10000]
theorem g_set (G : GR u ts hs ns m) (p1 p2 : Int32) : ∃ (o : (Nat × ShS × HS) ⊕ (Int32 × ShS × HS)) (b : Int32) (m' : MS), fX5_set p1 p2 u hs = some o ∧ fX6_set p1 p2 m = some (b, m') ∧ Gst g [0, 1] D (obX5_set g D R u ts bs ps hs ns o) b m' := by
  obtain ⟨i, rfl, I⟩ := iZ_B p1
  obtain ⟨v, rfl, V⟩ := iZ_B p2
  obtain ⟨⟨sc, S⟩, -⟩ := id G
  have hsc := S.1
  have hz : M_z m (296 : Int).toNat = iZ sc := S.2.2.1
  by_cases hi : 0 ≤ i ∧ i < 4
  · have f1 := stgY I hi
    have e1 := inY I (lo := 0) (hi := 3) (by omega) (by omega) (by omega)
    have f2 := cT1 hi.1 hi.2
    have f3 := cT2 hi.1 hi.2
    have e2 := rLeast hi.1 hi.2
    have e3 := rMost hi.1 hi.2
    have vb := v_b hi.1 hi.2
    by_cases hv : vlo i ≤ v ∧ v ≤ vhi i
    · have f4 := btwY V (lo := vlo i) (hi := vhi i) (by omega) (by omega) hv
      have e4 := inY V (lo := vlo i) (hi := vhi i) (by omega) (by omega) hv
      obtain ⟨hs', m2, s1, s2, s3, s4, -, -, -, s5⟩ := g_rec2 (G.th (iZ 0))
      have s3 : M_z m2 = M_z m := s3
      obtain ⟨pv, f5, b1, b2⟩ := S.val hi.1 hi.2
      have b1' : M_z m2 (297 + i).toNat = iZ pv := by rw [s3]; exact b1
      have f6 : fX1_putValue (iZ i) (iZ v) u = some (Sh_s_values u (upd (Sh_values u) i.toNat (iZ v))) := by
        have := c_putc (f := Sh_values u) (v := iZ v) (j := i) (na := 4) hi.1 hi.2 (by omega)
        unfold fX1_putValue
        simp (disch := omega) only [this, Mzz, Mzz2, Mtt, Mtz, Mtl, Mtx, Sum.elim_inl, Sum.elim_inr, bi_tr, bi_fa, Sh_same, Sh_ss, Sd_st, Sm_st, gd_true, gd_dec, lt_def, bind_s, isb_0, isb_1, iZ_add, iZ_sub, iZ_mul, iZ_neg, lZ_add, lZ_sub, lZ_mul, iZ_lt, iZ_le, iZ_eq, lZ_lt, lZ_le, lZ_eq, iZ_64, iZ_N, inb_Z, if_pos, if_neg, ↓reduceIte, Bool.true_eq_false, Bool.false_eq_true, li0, li1, li2, li3, li4, li5, li6, li9, li10, li16, li20, li23, li24, li25, li31, li33, li44, li48, li49, li50, li51, li57, li59, li60, li63, li69, li70, li71, li72, li74, li99, li100, li119, li126, li250, li296, li297, li298, li299, li300, li301, li302, li303, li606, li1515, li1818, li16384, li1048576, li2147483647, li10000, lj0, lj1, lj10000]
      have SX := S.setv hi.1 hi.2 hv.1 hv.2
      rw [← s3] at SX
      refine ⟨.inr (iZ pv, Sh_s_values u (upd (Sh_values u) i.toNat (iZ v)), hs'), iZ pv, M_s_z m2 (upd (M_z m2) (297 + i).toNat (iZ v)), ?_, ?_, Gst.r (show M_thrown m2 = iZ 0 from s4) (fun _ => WB.mk (s5 _ _ _ SX))⟩
      · unfold fX5_set
        simp (disch := omega) only [f1, f2, f3, f4, s1, f5, f6, Mzz, Mzz2, Mtt, Mtz, Mtl, Mtx, Sum.elim_inl, Sum.elim_inr, bi_tr, bi_fa, Sh_same, Sh_ss, Sd_st, Sm_st, gd_true, gd_dec, lt_def, bind_s, isb_0, isb_1, iZ_add, iZ_sub, iZ_mul, iZ_neg, lZ_add, lZ_sub, lZ_mul, iZ_lt, iZ_le, iZ_eq, lZ_lt, lZ_le, lZ_eq, iZ_64, iZ_N, inb_Z, if_pos, if_neg, ↓reduceIte, Bool.true_eq_false, Bool.false_eq_true, li0, li1, li2, li3, li4, li5, li6, li9, li10, li16, li20, li23, li24, li25, li31, li33, li44, li48, li49, li50, li51, li57, li59, li60, li63, li69, li70, li71, li72, li74, li99, li100, li119, li126, li250, li296, li297, li298, li299, li300, li301, li302, li303, li606, li1515, li1818, li16384, li1048576, li2147483647, li10000, lj0, lj1, lj10000]
      · unfold fX6_set
        simp (disch := omega) only [e1, e2, e3, e4, s2, b1', Mzz, Mzz2, Mtt, Mtz, Mtl, Mtx, Sum.elim_inl, Sum.elim_inr, bi_tr, bi_fa, Sh_same, Sh_ss, Sd_st, Sm_st, gd_true, gd_dec, lt_def, bind_s, isb_0, isb_1, iZ_add, iZ_sub, iZ_mul, iZ_neg, lZ_add, lZ_sub, lZ_mul, iZ_lt, iZ_le, iZ_eq, lZ_lt, lZ_le, lZ_eq, iZ_64, iZ_N, inb_Z, if_pos, if_neg, ↓reduceIte, Bool.true_eq_false, Bool.false_eq_true, li0, li1, li2, li3, li4, li5, li6, li9, li10, li16, li20, li23, li24, li25, li31, li33, li44, li48, li49, li50, li51, li57, li59, li60, li63, li69, li70, li71, li72, li74, li99, li100, li119, li126, li250, li296, li297, li298, li299, li300, li301, li302, li303, li606, li1515, li1818, li16384, li1048576, li2147483647, li10000, lj0, lj1, lj10000]
    · have f4 := btwN V (lo := vlo i) (hi := vhi i) (by omega) (by omega) hv
      have e4 := inN V (lo := vlo i) (hi := vhi i) (by omega) (by omega) hv
      refine ⟨.inl (1, u, hs), iZ 0, M_s_thrown m (iZ 2), ?_, ?_, Gst.l 1 rfl rfl (fun _ => WB.mk G)⟩
      · unfold fX5_set
        simp (disch := omega) only [f1, f2, f3, f4, Mzz, Mzz2, Mtt, Mtz, Mtl, Mtx, Sum.elim_inl, Sum.elim_inr, bi_tr, bi_fa, Sh_same, Sh_ss, Sd_st, Sm_st, gd_true, gd_dec, lt_def, bind_s, isb_0, isb_1, iZ_add, iZ_sub, iZ_mul, iZ_neg, lZ_add, lZ_sub, lZ_mul, iZ_lt, iZ_le, iZ_eq, lZ_lt, lZ_le, lZ_eq, iZ_64, iZ_N, inb_Z, if_pos, if_neg, ↓reduceIte, Bool.true_eq_false, Bool.false_eq_true, li0, li1, li2, li3, li4, li5, li6, li9, li10, li16, li20, li23, li24, li25, li31, li33, li44, li48, li49, li50, li51, li57, li59, li60, li63, li69, li70, li71, li72, li74, li99, li100, li119, li126, li250, li296, li297, li298, li299, li300, li301, li302, li303, li606, li1515, li1818, li16384, li1048576, li2147483647, li10000, lj0, lj1, lj10000]
      · unfold fX6_set
        simp (disch := omega) only [e1, e2, e3, e4, Mzz, Mzz2, Mtt, Mtz, Mtl, Mtx, Sum.elim_inl, Sum.elim_inr, bi_tr, bi_fa, Sh_same, Sh_ss, Sd_st, Sm_st, gd_true, gd_dec, lt_def, bind_s, isb_0, isb_1, iZ_add, iZ_sub, iZ_mul, iZ_neg, lZ_add, lZ_sub, lZ_mul, iZ_lt, iZ_le, iZ_eq, lZ_lt, lZ_le, lZ_eq, iZ_64, iZ_N, inb_Z, if_pos, if_neg, ↓reduceIte, Bool.true_eq_false, Bool.false_eq_true, li0, li1, li2, li3, li4, li5, li6, li9, li10, li16, li20, li23, li24, li25, li31, li33, li44, li48, li49, li50, li51, li57, li59, li60, li63, li69, li70, li71, li72, li74, li99, li100, li119, li126, li250, li296, li297, li298, li299, li300, li301, li302, li303, li606, li1515, li1818, li16384, li1048576, li2147483647, li10000, lj0, lj1, lj10000]
  · have f1 := stgN I hi
    have e1 := inN I (lo := 0) (hi := 3) (by omega) (by omega) (by omega)
    refine ⟨.inl (0, u, hs), iZ 0, M_s_thrown m (iZ 1), ?_, ?_, Gst.l 0 rfl rfl (fun _ => WB.mk G)⟩
    · unfold fX5_set
      simp (disch := omega) only [f1, Mzz, Mzz2, Mtt, Mtz, Mtl, Mtx, Sum.elim_inl, Sum.elim_inr, bi_tr, bi_fa, Sh_same, Sh_ss, Sd_st, Sm_st, gd_true, gd_dec, lt_def, bind_s, isb_0, isb_1, iZ_add, iZ_sub, iZ_mul, iZ_neg, lZ_add, lZ_sub, lZ_mul, iZ_lt, iZ_le, iZ_eq, lZ_lt, lZ_le, lZ_eq, iZ_64, iZ_N, inb_Z, if_pos, if_neg, ↓reduceIte, Bool.true_eq_false, Bool.false_eq_true, li0, li1, li2, li3, li4, li5, li6, li9, li10, li16, li20, li23, li24, li25, li31, li33, li44, li48, li49, li50, li51, li57, li59, li60, li63, li69, li70, li71, li72, li74, li99, li100, li119, li126, li250, li296, li297, li298, li299, li300, li301, li302, li303, li606, li1515, li1818, li16384, li1048576, li2147483647, li10000, lj0, lj1, lj10000]
    · unfold fX6_set
      simp (disch := omega) only [e1, Mzz, Mzz2, Mtt, Mtz, Mtl, Mtx, Sum.elim_inl, Sum.elim_inr, bi_tr, bi_fa, Sh_same, Sh_ss, Sd_st, Sm_st, gd_true, gd_dec, lt_def, bind_s, isb_0, isb_1, iZ_add, iZ_sub, iZ_mul, iZ_neg, lZ_add, lZ_sub, lZ_mul, iZ_lt, iZ_le, iZ_eq, lZ_lt, lZ_le, lZ_eq, iZ_64, iZ_N, inb_Z, if_pos, if_neg, ↓reduceIte, Bool.true_eq_false, Bool.false_eq_true, li0, li1, li2, li3, li4, li5, li6, li9, li10, li16, li20, li23, li24, li25, li31, li33, li44, li48, li49, li50, li51, li57, li59, li60, li63, li69, li70, li71, li72, li74, li99, li100, li119, li126, li250, li296, li297, li298, li299, li300, li301, li302, li303, li606, li1515, li1818, li16384, li1048576, li2147483647, li10000, lj0, lj1, lj10000]
theorem g_undo (G : GR u ts hs ns m) : ∃ (o : (Nat × ShS × HS) ⊕ (Int32 × ShS × HS)) (b : Int32) (m' : MS), fX5_undo u hs = some o ∧ fX6_undo m = some (b, m') ∧ Gst g [2] D (obX5_undo g D R u ts bs ps hs ns o) b m' := by
  obtain ⟨⟨sc, S⟩, ⟨c, hc1, hc2⟩, G3, G4⟩ := id G
  obtain ⟨o9, ho9, hc9, -, f1, -⟩ := id hc2
  by_cases h0 : c = 0
  · subst h0
    refine ⟨.inl (2, u, hs), iZ 0, M_s_thrown m (iZ 1), ?_, ?_, Gst.l 0 rfl rfl (fun _ => WB.mk G)⟩
    · unfold fX5_undo fX0_size
      simp (disch := omega) only [f1, Mzz, Mzz2, Mtt, Mtz, Mtl, Mtx, Sum.elim_inl, Sum.elim_inr, bi_tr, bi_fa, Sh_same, Sh_ss, Sd_st, Sm_st, gd_true, gd_dec, lt_def, bind_s, isb_0, isb_1, iZ_add, iZ_sub, iZ_mul, iZ_neg, lZ_add, lZ_sub, lZ_mul, iZ_lt, iZ_le, iZ_eq, lZ_lt, lZ_le, lZ_eq, iZ_64, iZ_N, inb_Z, if_pos, if_neg, ↓reduceIte, Bool.true_eq_false, Bool.false_eq_true, li0, li1, li2, li3, li4, li5, li6, li9, li10, li16, li20, li23, li24, li25, li31, li33, li44, li48, li49, li50, li51, li57, li59, li60, li63, li69, li70, li71, li72, li74, li99, li100, li119, li126, li250, li296, li297, li298, li299, li300, li301, li302, li303, li606, li1515, li1818, li16384, li1048576, li2147483647, li10000, lj0, lj1, lj10000]
    · unfold fX6_undo
      simp (disch := omega) only [hc1, Mzz, Mzz2, Mtt, Mtz, Mtl, Mtx, Sum.elim_inl, Sum.elim_inr, bi_tr, bi_fa, Sh_same, Sh_ss, Sd_st, Sm_st, gd_true, gd_dec, lt_def, bind_s, isb_0, isb_1, iZ_add, iZ_sub, iZ_mul, iZ_neg, lZ_add, lZ_sub, lZ_mul, iZ_lt, iZ_le, iZ_eq, lZ_lt, lZ_le, lZ_eq, iZ_64, iZ_N, inb_Z, if_pos, if_neg, ↓reduceIte, Bool.true_eq_false, Bool.false_eq_true, li0, li1, li2, li3, li4, li5, li6, li9, li10, li16, li20, li23, li24, li25, li31, li33, li44, li48, li49, li50, li51, li57, li59, li60, li63, li69, li70, li71, li72, li74, li99, li100, li119, li126, li250, li296, li297, li298, li299, li300, li301, li302, li303, li606, li1515, li1818, li16384, li1048576, li2147483647, li10000, lj0, lj1, lj10000]
  · obtain ⟨h', v, sc', f2, f3, f4⟩ := c_restore u hc2 (by omega)
    obtain ⟨o8, -, -, -, f5, -⟩ := id f3
    have hu : M_saves (M_s_saves (M_s_thrown m (iZ 0)) (iZ (c - 1))) = iZ (c - 1) := rfl
    obtain ⟨z, e1, e2⟩ := r_undoL hu (by omega) (by omega)
    have hc1' : M_saves (M_s_thrown m (iZ 0)) = iZ c := hc1
    refine ⟨.inr (iZ (c - 1), v, h'), iZ (c - 1), M_s_z (M_s_saves (M_s_thrown m (iZ 0)) (iZ (c - 1))) z, ?_, ?_, Gst.r rfl (fun _ => WB.mk ⟨⟨sc', f4.cg e2⟩, ⟨c - 1, rfl, f3⟩, G3, G4⟩)⟩
    · unfold fX5_undo fX0_size
      simp (disch := omega) only [f1, f2, f5, Mzz, Mzz2, Mtt, Mtz, Mtl, Mtx, Sum.elim_inl, Sum.elim_inr, bi_tr, bi_fa, Sh_same, Sh_ss, Sd_st, Sm_st, gd_true, gd_dec, lt_def, bind_s, isb_0, isb_1, iZ_add, iZ_sub, iZ_mul, iZ_neg, lZ_add, lZ_sub, lZ_mul, iZ_lt, iZ_le, iZ_eq, lZ_lt, lZ_le, lZ_eq, iZ_64, iZ_N, inb_Z, if_pos, if_neg, ↓reduceIte, Bool.true_eq_false, Bool.false_eq_true, li0, li1, li2, li3, li4, li5, li6, li9, li10, li16, li20, li23, li24, li25, li31, li33, li44, li48, li49, li50, li51, li57, li59, li60, li63, li69, li70, li71, li72, li74, li99, li100, li119, li126, li250, li296, li297, li298, li299, li300, li301, li302, li303, li606, li1515, li1818, li16384, li1048576, li2147483647, li10000, lj0, lj1, lj10000]
    · unfold fX6_undo
      simp (disch := omega) only [hc1, hc1', e1, Mzz, Mzz2, Mtt, Mtz, Mtl, Mtx, Sum.elim_inl, Sum.elim_inr, bi_tr, bi_fa, Sh_same, Sh_ss, Sd_st, Sm_st, gd_true, gd_dec, lt_def, bind_s, isb_0, isb_1, iZ_add, iZ_sub, iZ_mul, iZ_neg, lZ_add, lZ_sub, lZ_mul, iZ_lt, iZ_le, iZ_eq, lZ_lt, lZ_le, lZ_eq, iZ_64, iZ_N, inb_Z, if_pos, if_neg, ↓reduceIte, Bool.true_eq_false, Bool.false_eq_true, li0, li1, li2, li3, li4, li5, li6, li9, li10, li16, li20, li23, li24, li25, li31, li33, li44, li48, li49, li50, li51, li57, li59, li60, li63, li69, li70, li71, li72, li74, li99, li100, li119, li126, li250, li296, li297, li298, li299, li300, li301, li302, li303, li606, li1515, li1818, li16384, li1048576, li2147483647, li10000, lj0, lj1, lj10000]
theorem g_keep (G : GR u ts hs ns m) (p1 : Int32) : ∃ (o : (Nat × NS) ⊕ (Int32 × NS)) (b : Int32) (m' : MS), fX5_keep p1 u ns = some o ∧ fX6_keep p1 m = some (b, m') ∧ Gst g [1] D (obX5_keep g D R u ts bs ps hs ns o) b m' := by
  obtain ⟨i, rfl, I⟩ := iZ_B p1
  obtain ⟨⟨sc, S⟩, -⟩ := id G
  have hsc := S.1
  have hz : M_z m (296 : Int).toNat = iZ sc := S.2.2.1
  obtain ⟨-, G2, G3, G4⟩ := id G
  by_cases hi : 0 ≤ i ∧ i ≤ 1
  · have e1 := inY I (lo := 0) (hi := 1) (by omega) (by omega) hi
    obtain ⟨v, f1, f2⟩ := c_copySheet S ((ns i.toNat).getD ShNew)
    have f3 := S.2.1
    obtain ⟨sl, e2, e3, e4⟩ := r_keepL (u := M_s_thrown m (iZ 0)) hi.1 hi.2
    have e5 : vp_nar .boolean (iZ 1) = iZ 1 := rfl
    have hz' : M_z (M_s_isTaken (M_s_slots (M_s_thrown m (iZ 0)) sl) (upd (M_isTaken (M_s_slots (M_s_thrown m (iZ 0)) sl)) i.toNat (iZ 1))) (296 : Int).toNat = iZ sc := hz
    refine ⟨.inr (iZ sc, va_up ns i.toNat (some v)), iZ sc, M_s_isTaken (M_s_slots (M_s_thrown m (iZ 0)) sl) (upd (M_isTaken (M_s_slots (M_s_thrown m (iZ 0)) sl)) i.toNat (iZ 1)), ?_, ?_, Gst.r rfl (fun _ => WB.mk ⟨⟨sc, S⟩, G2, fun k k0 k1 => ?_, G4⟩)⟩
    · unfold fX5_keep fX1_strokeCount
      simp (disch := omega) only [f1, f3, Mzz, Mzz2, Mtt, Mtz, Mtl, Mtx, Sum.elim_inl, Sum.elim_inr, bi_tr, bi_fa, Sh_same, Sh_ss, Sd_st, Sm_st, gd_true, gd_dec, lt_def, bind_s, isb_0, isb_1, iZ_add, iZ_sub, iZ_mul, iZ_neg, lZ_add, lZ_sub, lZ_mul, iZ_lt, iZ_le, iZ_eq, lZ_lt, lZ_le, lZ_eq, iZ_64, iZ_N, inb_Z, if_pos, if_neg, ↓reduceIte, Bool.true_eq_false, Bool.false_eq_true, li0, li1, li2, li3, li4, li5, li6, li9, li10, li16, li20, li23, li24, li25, li31, li33, li44, li48, li49, li50, li51, li57, li59, li60, li63, li69, li70, li71, li72, li74, li99, li100, li119, li126, li250, li296, li297, li298, li299, li300, li301, li302, li303, li606, li1515, li1818, li16384, li1048576, li2147483647, li10000, lj0, lj1, lj10000]
    · unfold fX6_keep
      simp (disch := omega) only [e1, e2, e5, hz', Mzz, Mzz2, Mtt, Mtz, Mtl, Mtx, Sum.elim_inl, Sum.elim_inr, bi_tr, bi_fa, Sh_same, Sh_ss, Sd_st, Sm_st, gd_true, gd_dec, lt_def, bind_s, isb_0, isb_1, iZ_add, iZ_sub, iZ_mul, iZ_neg, lZ_add, lZ_sub, lZ_mul, iZ_lt, iZ_le, iZ_eq, lZ_lt, lZ_le, lZ_eq, iZ_64, iZ_N, inb_Z, if_pos, if_neg, ↓reduceIte, Bool.true_eq_false, Bool.false_eq_true, li0, li1, li2, li3, li4, li5, li6, li9, li10, li16, li20, li23, li24, li25, li31, li33, li44, li48, li49, li50, li51, li57, li59, li60, li63, li69, li70, li71, li72, li74, li99, li100, li119, li126, li250, li296, li297, li298, li299, li300, li301, li302, li303, li606, li1515, li1818, li16384, li1048576, li2147483647, li10000, lj0, lj1, lj10000]
    · by_cases e : k = i
      · subst e
        right
        refine ⟨v, sc, vu_self _ _ _, upd_s, f2.cg (fun j j0 j1 => ?_)⟩
        exact e3 j j0 j1
      · have ek : k = 1 - i := by omega
        rcases G3 k k0 k1 with ⟨a1, a2⟩ | ⟨w, sc', a1, a2, a3⟩
        · left
          refine ⟨?_, ?_⟩
          · show va_up _ _ _ _ = _
            rw [vu_ne _ _ (by omega)]
            exact a1
          · show upd _ _ _ _ = _
            rw [upd_n (by omega)]
            exact a2
        · right
          refine ⟨w, sc', ?_, ?_, a3.cg (fun j j0 j1 => ?_)⟩
          · show va_up _ _ _ _ = _
            rw [vu_ne _ _ (by omega)]
            exact a1
          · show upd _ _ _ _ = _
            rw [upd_n (by omega)]
            exact a2
          · rw [ek]
            exact e4 j j0 j1
  · have e1 := inN I (lo := 0) (hi := 1) (by omega) (by omega) hi
    obtain ⟨I0, I1⟩ := I
    refine ⟨.inl (1, ns), iZ 0, M_s_thrown m (iZ 1), ?_, ?_, Gst.l 0 rfl rfl (fun _ => WB.mk G)⟩
    · unfold fX5_keep
      by_cases i0 : i < 0
      · simp (disch := omega) only [Mzz, Mzz2, Mtt, Mtz, Mtl, Mtx, Sum.elim_inl, Sum.elim_inr, bi_tr, bi_fa, Sh_same, Sh_ss, Sd_st, Sm_st, gd_true, gd_dec, lt_def, bind_s, isb_0, isb_1, iZ_add, iZ_sub, iZ_mul, iZ_neg, lZ_add, lZ_sub, lZ_mul, iZ_lt, iZ_le, iZ_eq, lZ_lt, lZ_le, lZ_eq, iZ_64, iZ_N, inb_Z, if_pos, if_neg, ↓reduceIte, Bool.true_eq_false, Bool.false_eq_true, li0, li1, li2, li3, li4, li5, li6, li9, li10, li16, li20, li23, li24, li25, li31, li33, li44, li48, li49, li50, li51, li57, li59, li60, li63, li69, li70, li71, li72, li74, li99, li100, li119, li126, li250, li296, li297, li298, li299, li300, li301, li302, li303, li606, li1515, li1818, li16384, li1048576, li2147483647, li10000, lj0, lj1, lj10000]
      · simp (disch := omega) only [Mzz, Mzz2, Mtt, Mtz, Mtl, Mtx, Sum.elim_inl, Sum.elim_inr, bi_tr, bi_fa, Sh_same, Sh_ss, Sd_st, Sm_st, gd_true, gd_dec, lt_def, bind_s, isb_0, isb_1, iZ_add, iZ_sub, iZ_mul, iZ_neg, lZ_add, lZ_sub, lZ_mul, iZ_lt, iZ_le, iZ_eq, lZ_lt, lZ_le, lZ_eq, iZ_64, iZ_N, inb_Z, if_pos, if_neg, ↓reduceIte, Bool.true_eq_false, Bool.false_eq_true, li0, li1, li2, li3, li4, li5, li6, li9, li10, li16, li20, li23, li24, li25, li31, li33, li44, li48, li49, li50, li51, li57, li59, li60, li63, li69, li70, li71, li72, li74, li99, li100, li119, li126, li250, li296, li297, li298, li299, li300, li301, li302, li303, li606, li1515, li1818, li16384, li1048576, li2147483647, li10000, lj0, lj1, lj10000]
    · unfold fX6_keep
      simp (disch := omega) only [e1, Mzz, Mzz2, Mtt, Mtz, Mtl, Mtx, Sum.elim_inl, Sum.elim_inr, bi_tr, bi_fa, Sh_same, Sh_ss, Sd_st, Sm_st, gd_true, gd_dec, lt_def, bind_s, isb_0, isb_1, iZ_add, iZ_sub, iZ_mul, iZ_neg, lZ_add, lZ_sub, lZ_mul, iZ_lt, iZ_le, iZ_eq, lZ_lt, lZ_le, lZ_eq, iZ_64, iZ_N, inb_Z, if_pos, if_neg, ↓reduceIte, Bool.true_eq_false, Bool.false_eq_true, li0, li1, li2, li3, li4, li5, li6, li9, li10, li16, li20, li23, li24, li25, li31, li33, li44, li48, li49, li50, li51, li57, li59, li60, li63, li69, li70, li71, li72, li74, li99, li100, li119, li126, li250, li296, li297, li298, li299, li300, li301, li302, li303, li606, li1515, li1818, li16384, li1048576, li2147483647, li10000, lj0, lj1, lj10000]
theorem g_goBack (G : GR u ts hs ns m) (p1 : Int32) : ∃ (o : (Nat × ShS × HS) ⊕ (Int32 × ShS × HS)) (b : Int32) (m' : MS), fX5_goBack p1 u hs ns = some o ∧ fX6_goBack p1 m = some (b, m') ∧ Gst g [1, 2] D (obX5_goBack g D R u ts bs ps hs ns o) b m' := by
  obtain ⟨i, rfl, I⟩ := iZ_B p1
  obtain ⟨⟨sc, S⟩, -⟩ := id G
  have hsc := S.1
  have hz : M_z m (296 : Int).toNat = iZ sc := S.2.2.1
  obtain ⟨-, G2, G3, G4⟩ := id G
  by_cases hi : 0 ≤ i ∧ i ≤ 1
  · have e1 := inY I (lo := 0) (hi := 1) (by omega) (by omega) hi
    rcases G3 i hi.1 (by omega) with ⟨a1, a2⟩ | ⟨w, sc', a1, a2, a3⟩
    · refine ⟨.inl (2, u, hs), iZ 0, M_s_thrown m (iZ 2), ?_, ?_, Gst.l 1 rfl rfl (fun _ => WB.mk G)⟩
      · unfold fX5_goBack
        simp (disch := omega) only [a1, Option.elim, Mzz, Mzz2, Mtt, Mtz, Mtl, Mtx, Sum.elim_inl, Sum.elim_inr, bi_tr, bi_fa, Sh_same, Sh_ss, Sd_st, Sm_st, gd_true, gd_dec, lt_def, bind_s, isb_0, isb_1, iZ_add, iZ_sub, iZ_mul, iZ_neg, lZ_add, lZ_sub, lZ_mul, iZ_lt, iZ_le, iZ_eq, lZ_lt, lZ_le, lZ_eq, iZ_64, iZ_N, inb_Z, if_pos, if_neg, ↓reduceIte, Bool.true_eq_false, Bool.false_eq_true, li0, li1, li2, li3, li4, li5, li6, li9, li10, li16, li20, li23, li24, li25, li31, li33, li44, li48, li49, li50, li51, li57, li59, li60, li63, li69, li70, li71, li72, li74, li99, li100, li119, li126, li250, li296, li297, li298, li299, li300, li301, li302, li303, li606, li1515, li1818, li16384, li1048576, li2147483647, li10000, lj0, lj1, lj10000]
      · unfold fX6_goBack
        simp (disch := omega) only [e1, a2, Mzz, Mzz2, Mtt, Mtz, Mtl, Mtx, Sum.elim_inl, Sum.elim_inr, bi_tr, bi_fa, Sh_same, Sh_ss, Sd_st, Sm_st, gd_true, gd_dec, lt_def, bind_s, isb_0, isb_1, iZ_add, iZ_sub, iZ_mul, iZ_neg, lZ_add, lZ_sub, lZ_mul, iZ_lt, iZ_le, iZ_eq, lZ_lt, lZ_le, lZ_eq, iZ_64, iZ_N, inb_Z, if_pos, if_neg, ↓reduceIte, Bool.true_eq_false, Bool.false_eq_true, li0, li1, li2, li3, li4, li5, li6, li9, li10, li16, li20, li23, li24, li25, li31, li33, li44, li48, li49, li50, li51, li57, li59, li60, li63, li69, li70, li71, li72, li74, li99, li100, li119, li126, li250, li296, li297, li298, li299, li300, li301, li302, li303, li606, li1515, li1818, li16384, li1048576, li2147483647, li10000, lj0, lj1, lj10000]
    · obtain ⟨hs', m2, s1, s2, s3, s4, s6, -, -, s5⟩ := g_rec2 (G.th (iZ 0))
      obtain ⟨v, f1, f2⟩ := c_copySheet a3 u
      have f3 := f2.2.1
      obtain ⟨z, e2, e3⟩ := r_backL (u := m2) hi.1 hi.2
      have s6 : M_slots m2 = M_slots m := s6
      rw [s6] at e3
      have SX := f2.cg e3
      have e4 := SX.2.2.1
      refine ⟨.inr (iZ sc', v, hs'), iZ sc', M_s_z m2 z, ?_, ?_, Gst.r (show M_thrown m2 = iZ 0 from s4) (fun _ => WB.mk (s5 _ _ _ SX))⟩
      · unfold fX5_goBack fX1_strokeCount
        simp (disch := omega) only [a1, Option.elim, s1, f1, f3, Mzz, Mzz2, Mtt, Mtz, Mtl, Mtx, Sum.elim_inl, Sum.elim_inr, bi_tr, bi_fa, Sh_same, Sh_ss, Sd_st, Sm_st, gd_true, gd_dec, lt_def, bind_s, isb_0, isb_1, iZ_add, iZ_sub, iZ_mul, iZ_neg, lZ_add, lZ_sub, lZ_mul, iZ_lt, iZ_le, iZ_eq, lZ_lt, lZ_le, lZ_eq, iZ_64, iZ_N, inb_Z, if_pos, if_neg, ↓reduceIte, Bool.true_eq_false, Bool.false_eq_true, li0, li1, li2, li3, li4, li5, li6, li9, li10, li16, li20, li23, li24, li25, li31, li33, li44, li48, li49, li50, li51, li57, li59, li60, li63, li69, li70, li71, li72, li74, li99, li100, li119, li126, li250, li296, li297, li298, li299, li300, li301, li302, li303, li606, li1515, li1818, li16384, li1048576, li2147483647, li10000, lj0, lj1, lj10000]
      · unfold fX6_goBack
        simp (disch := omega) only [e1, a2, s2, e2, e4, Mzz, Mzz2, Mtt, Mtz, Mtl, Mtx, Sum.elim_inl, Sum.elim_inr, bi_tr, bi_fa, Sh_same, Sh_ss, Sd_st, Sm_st, gd_true, gd_dec, lt_def, bind_s, isb_0, isb_1, iZ_add, iZ_sub, iZ_mul, iZ_neg, lZ_add, lZ_sub, lZ_mul, iZ_lt, iZ_le, iZ_eq, lZ_lt, lZ_le, lZ_eq, iZ_64, iZ_N, inb_Z, if_pos, if_neg, ↓reduceIte, Bool.true_eq_false, Bool.false_eq_true, li0, li1, li2, li3, li4, li5, li6, li9, li10, li16, li20, li23, li24, li25, li31, li33, li44, li48, li49, li50, li51, li57, li59, li60, li63, li69, li70, li71, li72, li74, li99, li100, li119, li126, li250, li296, li297, li298, li299, li300, li301, li302, li303, li606, li1515, li1818, li16384, li1048576, li2147483647, li10000, lj0, lj1, lj10000]
  · have e1 := inN I (lo := 0) (hi := 1) (by omega) (by omega) hi
    obtain ⟨I0, I1⟩ := I
    refine ⟨.inl (1, u, hs), iZ 0, M_s_thrown m (iZ 1), ?_, ?_, Gst.l 0 rfl rfl (fun _ => WB.mk G)⟩
    · unfold fX5_goBack
      by_cases i0 : i < 0
      · simp (disch := omega) only [Mzz, Mzz2, Mtt, Mtz, Mtl, Mtx, Sum.elim_inl, Sum.elim_inr, bi_tr, bi_fa, Sh_same, Sh_ss, Sd_st, Sm_st, gd_true, gd_dec, lt_def, bind_s, isb_0, isb_1, iZ_add, iZ_sub, iZ_mul, iZ_neg, lZ_add, lZ_sub, lZ_mul, iZ_lt, iZ_le, iZ_eq, lZ_lt, lZ_le, lZ_eq, iZ_64, iZ_N, inb_Z, if_pos, if_neg, ↓reduceIte, Bool.true_eq_false, Bool.false_eq_true, li0, li1, li2, li3, li4, li5, li6, li9, li10, li16, li20, li23, li24, li25, li31, li33, li44, li48, li49, li50, li51, li57, li59, li60, li63, li69, li70, li71, li72, li74, li99, li100, li119, li126, li250, li296, li297, li298, li299, li300, li301, li302, li303, li606, li1515, li1818, li16384, li1048576, li2147483647, li10000, lj0, lj1, lj10000]
      · simp (disch := omega) only [Mzz, Mzz2, Mtt, Mtz, Mtl, Mtx, Sum.elim_inl, Sum.elim_inr, bi_tr, bi_fa, Sh_same, Sh_ss, Sd_st, Sm_st, gd_true, gd_dec, lt_def, bind_s, isb_0, isb_1, iZ_add, iZ_sub, iZ_mul, iZ_neg, lZ_add, lZ_sub, lZ_mul, iZ_lt, iZ_le, iZ_eq, lZ_lt, lZ_le, lZ_eq, iZ_64, iZ_N, inb_Z, if_pos, if_neg, ↓reduceIte, Bool.true_eq_false, Bool.false_eq_true, li0, li1, li2, li3, li4, li5, li6, li9, li10, li16, li20, li23, li24, li25, li31, li33, li44, li48, li49, li50, li51, li57, li59, li60, li63, li69, li70, li71, li72, li74, li99, li100, li119, li126, li250, li296, li297, li298, li299, li300, li301, li302, li303, li606, li1515, li1818, li16384, li1048576, li2147483647, li10000, lj0, lj1, lj10000]
    · unfold fX6_goBack
      simp (disch := omega) only [e1, Mzz, Mzz2, Mtt, Mtz, Mtl, Mtx, Sum.elim_inl, Sum.elim_inr, bi_tr, bi_fa, Sh_same, Sh_ss, Sd_st, Sm_st, gd_true, gd_dec, lt_def, bind_s, isb_0, isb_1, iZ_add, iZ_sub, iZ_mul, iZ_neg, lZ_add, lZ_sub, lZ_mul, iZ_lt, iZ_le, iZ_eq, lZ_lt, lZ_le, lZ_eq, iZ_64, iZ_N, inb_Z, if_pos, if_neg, ↓reduceIte, Bool.true_eq_false, Bool.false_eq_true, li0, li1, li2, li3, li4, li5, li6, li9, li10, li16, li20, li23, li24, li25, li31, li33, li44, li48, li49, li50, li51, li57, li59, li60, li63, li69, li70, li71, li72, li74, li99, li100, li119, li126, li250, li296, li297, li298, li299, li300, li301, li302, li303, li606, li1515, li1818, li16384, li1048576, li2147483647, li10000, lj0, lj1, lj10000]
end Q
end
