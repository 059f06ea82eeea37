section
/-! the whole: the text; a new object -/
theorem GR.new : GR ShNew T0 H0s N0s M0 := by
  refine ⟨⟨0, by omega, rfl, rfl, fun s s0 s1 => by omega, fun i i0 i1 => ?_, rfl, rfl⟩, ⟨0, rfl, 0, by omega, by omega, rfl, rfl, fun i i0 i1 => by omega⟩, fun i i0 i1 => Or.inl ⟨rfl, rfl⟩, ⟨0, fun _ => 0, by omega, rfl, rfl, fun k a b => by omega⟩⟩
  have : i = 0 ∨ i = 1 ∨ i = 2 ∨ i = 3 := by omega
  rcases this with rfl | rfl | rfl | rfl
  · exact ⟨3, rfl, rfl, by decide, by decide⟩
  · exact ⟨50, rfl, rfl, by decide, by decide⟩
  · exact ⟨4, rfl, rfl, by decide, by decide⟩
  · exact ⟨20, rfl, rfl, by decide, by decide⟩
theorem c_rte {cd mm : Nat → Int32} {L : Int} {tx : Int → Int} (hL : 0 ≤ L ∧ L ≤ 70) (hcd : ∀ k : Int, 0 ≤ k → k < L → cd k.toNat = iZ (tx k)) (ht : ∀ k : Int, 0 ≤ k → k < L → 33 ≤ tx k ∧ tx k ≤ 126) (a b c x y sz kk : Int32) : ∃ (e : Int) (st : AS) (m' : Nat → Int32), IsEr tx (0, 0, 0, x.toInt, y.toInt, 0, fun _ => 0) L e st ∧ fX4_readToError (cd, iZ L, a, b, c, x, y) (mm, sz, kk) = some (iZ e, tS cd (iZ L) st, bS m' st) ∧ Row m' st.2.2.2.2.2.1 st.2.2.2.2.2.2 ∧ OkA e st := by
  have B0 : OkA 0 (0, 0, 0, x.toInt, y.toInt, 0, fun _ => 0) := ⟨by omega, by omega, by omega, by omega, by omega, by omega, by omega, by omega, fun k a b => by omega⟩
  have R0 : Row mm 0 (fun _ => 0) := fun j a b => by omega
  obtain ⟨e, st, m', h1, h2, h3⟩ := c_read (s0 := (0, 0, 0, x.toInt, y.toInt, 0, fun _ => 0)) hL hcd ht B0 R0
  refine ⟨e, st, m', h1, ?_, h3, rn_Ok B0 h1.1.1 h1.2.1⟩
  have e1 : tS cd (iZ L) (0, 0, 0, x.toInt, y.toInt, 0, fun _ => 0) = (cd, iZ L, 0, 0, 0, x, y) := by
    show (cd, iZ L, iZ 0, iZ 0, iZ 0, iZ x.toInt, iZ y.toInt) = _
    rw [← iZ_of x, ← iZ_of y]
    rfl
  have e2 : bS mm (0, 0, 0, x.toInt, y.toInt, 0, fun _ => 0) = (mm, 0, 0) := by
    have a0 : allK 0 = 0 := by decide +kernel
    show (mm, iZ 0, allK 0) = _
    rw [a0]
    rfl
  rw [e1, e2] at h2
  exact h2
theorem c_tells {cd mm : Nat → Int32} {L : Int} {tx : Int → Int} (hL : 0 ≤ L ∧ L ≤ 70) (hcd : ∀ k : Int, 0 ≤ k → k < L → cd k.toNat = iZ (tx k)) (ht : ∀ k : Int, 0 ≤ k → k < L → 33 ≤ tx k ∧ tx k ≤ 126) (a b c x y sz kk : Int32) : ∃ (e : Int) (st : AS), IsEr tx (0, 0, 0, x.toInt, y.toInt, 0, fun _ => 0) L e st ∧ OkA e st ∧ ((¬ (e = L ∧ CpA st ∧ 1 ≤ st.2.2.2.2.2.1) ∧ ∃ bs' : SS, fX4_tellsStroke (cd, iZ L, a, b, c, x, y) (mm, sz, kk) = some (iZ 0, tS cd (iZ L) st, bs')) ∨ ((e = L ∧ CpA st ∧ 1 ≤ st.2.2.2.2.2.1) ∧ ∃ m' : Nat → Int32, fX4_tellsStroke (cd, iZ L, a, b, c, x, y) (mm, sz, kk) = some (iZ 1, tS cd (iZ L) st, (m', iZ (st.2.2.2.2.2.1 + 1), allK (st.2.2.2.2.2.1 + 1))) ∧ Row m' (st.2.2.2.2.2.1 + 1) (endP st.1 st.2.2.1 st.2.2.2.1 st.2.2.2.2.1 st.2.2.2.2.2.1 st.2.2.2.2.2.2) ∧ Crd (st.2.2.2.2.2.1 + 1) (endP st.1 st.2.2.1 st.2.2.2.1 st.2.2.2.2.1 st.2.2.2.2.2.1 st.2.2.2.2.2.2))) := by
  obtain ⟨e, st, m', h1, h2, h3, h4⟩ := c_rte (mm := mm) hL hcd ht a b c x y sz kk
  obtain ⟨⟨e0, e1⟩, -⟩ := id h1
  refine ⟨e, st, h1, h4, ?_⟩
  obtain ⟨pt, dg, nm, sx, sy, sc, P⟩ := st
  obtain ⟨b1, b2, b3, b4, b5, b6, b7, b8, b9⟩ := id h4
  have t1 : T_length (tS cd (iZ L) (pt, dg, nm, sx, sy, sc, P)) = iZ L := rfl
  have t2 : T_digits (tS cd (iZ L) (pt, dg, nm, sx, sy, sc, P)) = iZ dg := rfl
  have t3 : T_part (tS cd (iZ L) (pt, dg, nm, sx, sy, sc, P)) = iZ pt := rfl
  by_cases hc : e = L ∧ CpA (pt, dg, nm, sx, sy, sc, P)
  · have hd : dg ≠ 0 := hc.2.1
    have hp : pt ≠ 0 := hc.2.2
    have hm' : Row m' sc P := h3
    obtain ⟨m2, g1, g2⟩ := c_endP (cd := cd) (L := iZ L) (pt := pt) (nm := nm) (x := sx) (y := sy) (d := iZ dg) (K := allK sc) hm' b1 b8.1 (by omega)
    have g1' : fX4_endPoint (tS cd (iZ L) (pt, dg, nm, sx, sy, sc, P)) (bS m' (pt, dg, nm, sx, sy, sc, P)) = some (m2, iZ (sc + 1), allK (sc + 1)) := g1
    have fs : fX3_size (m2, iZ (sc + 1), allK (sc + 1)) = some (iZ (sc + 1)) := rfl
    have heL := hc.1
    by_cases h9 : 1 ≤ sc
    · right
      refine ⟨⟨hc.1, hc.2, h9⟩, m2, ?_, g2, endC h4 hp hd⟩
      unfold fX4_tellsStroke
      simp (disch := omega) only [h2, t1, t2, t3, g1', fs, Mzz, Mzz2, Mtt, Mtz, Mtl, Mtx, Sum.elim_inl, Sum.elim_inr, bi_tr, bi_fa, Sh_same, Sh_ss, gd_true, gd_dec, lt_def, bind_s, isb_0, isb_1, iZ_add, iZ_sub, iZ_mul, iZ_neg, lZ_add, lZ_sub, lZ_mul, iZ_lt, iZ_le, iZ_eq, lZ_lt, lZ_le, lZ_eq, iZ_64, iZ_N, inb_Z, if_pos, if_neg, ↓reduceIte, Bool.true_eq_false, Bool.false_eq_true, li0, li1, li2, li3, li4, li5, li6, li9, li10, li16, li20, li23, li24, li25, li31, li33, li44, li48, li49, li50, li51, li57, li59, li60, li63, li69, li70, li71, li72, li74, li99, li100, li119, li126, li250, li296, li297, li298, li299, li300, li301, li302, li303, li606, li1515, li1818, li16384, li1048576, li2147483647, li10000, lj0, lj1, lj10000]
    · left
      refine ⟨fun q => h9 q.2.2, (m2, iZ (sc + 1), allK (sc + 1)), ?_⟩
      unfold fX4_tellsStroke
      simp (disch := omega) only [h2, t1, t2, t3, g1', fs, Mzz, Mzz2, Mtt, Mtz, Mtl, Mtx, Sum.elim_inl, Sum.elim_inr, bi_tr, bi_fa, Sh_same, Sh_ss, gd_true, gd_dec, lt_def, bind_s, isb_0, isb_1, iZ_add, iZ_sub, iZ_mul, iZ_neg, lZ_add, lZ_sub, lZ_mul, iZ_lt, iZ_le, iZ_eq, lZ_lt, lZ_le, lZ_eq, iZ_64, iZ_N, inb_Z, if_pos, if_neg, ↓reduceIte, Bool.true_eq_false, Bool.false_eq_true, li0, li1, li2, li3, li4, li5, li6, li9, li10, li16, li20, li23, li24, li25, li31, li33, li44, li48, li49, li50, li51, li57, li59, li60, li63, li69, li70, li71, li72, li74, li99, li100, li119, li126, li250, li296, li297, li298, li299, li300, li301, li302, li303, li606, li1515, li1818, li16384, li1048576, li2147483647, li10000, lj0, lj1, lj10000]
  · left
    refine ⟨fun q => hc ⟨q.1, q.2.1⟩, bS m' (pt, dg, nm, sx, sy, sc, P), ?_⟩
    unfold fX4_tellsStroke
    by_cases h7 : e < L
    · simp (disch := omega) only [h2, t1, t2, t3, Mzz, Mzz2, Mtt, Mtz, Mtl, Mtx, Sum.elim_inl, Sum.elim_inr, bi_tr, bi_fa, Sh_same, Sh_ss, gd_true, gd_dec, lt_def, bind_s, isb_0, isb_1, iZ_add, iZ_sub, iZ_mul, iZ_neg, lZ_add, lZ_sub, lZ_mul, iZ_lt, iZ_le, iZ_eq, lZ_lt, lZ_le, lZ_eq, iZ_64, iZ_N, inb_Z, if_pos, if_neg, ↓reduceIte, Bool.true_eq_false, Bool.false_eq_true, li0, li1, li2, li3, li4, li5, li6, li9, li10, li16, li20, li23, li24, li25, li31, li33, li44, li48, li49, li50, li51, li57, li59, li60, li63, li69, li70, li71, li72, li74, li99, li100, li119, li126, li250, li296, li297, li298, li299, li300, li301, li302, li303, li606, li1515, li1818, li16384, li1048576, li2147483647, li10000, lj0, lj1, lj10000]
    · by_cases h8 : dg = 0
      · simp (disch := omega) only [h2, t1, t2, t3, Mzz, Mzz2, Mtt, Mtz, Mtl, Mtx, Sum.elim_inl, Sum.elim_inr, bi_tr, bi_fa, Sh_same, Sh_ss, gd_true, gd_dec, lt_def, bind_s, isb_0, isb_1, iZ_add, iZ_sub, iZ_mul, iZ_neg, lZ_add, lZ_sub, lZ_mul, iZ_lt, iZ_le, iZ_eq, lZ_lt, lZ_le, lZ_eq, iZ_64, iZ_N, inb_Z, if_pos, if_neg, ↓reduceIte, Bool.true_eq_false, Bool.false_eq_true, li0, li1, li2, li3, li4, li5, li6, li9, li10, li16, li20, li23, li24, li25, li31, li33, li44, li48, li49, li50, li51, li57, li59, li60, li63, li69, li70, li71, li72, li74, li99, li100, li119, li126, li250, li296, li297, li298, li299, li300, li301, li302, li303, li606, li1515, li1818, li16384, li1048576, li2147483647, li10000, lj0, lj1, lj10000]
      · have h9 : pt = 0 := Classical.byContradiction fun q => hc ⟨by omega, h8, q⟩
        simp (disch := omega) only [h2, t1, t2, t3, Mzz, Mzz2, Mtt, Mtz, Mtl, Mtx, Sum.elim_inl, Sum.elim_inr, bi_tr, bi_fa, Sh_same, Sh_ss, gd_true, gd_dec, lt_def, bind_s, isb_0, isb_1, iZ_add, iZ_sub, iZ_mul, iZ_neg, lZ_add, lZ_sub, lZ_mul, iZ_lt, iZ_le, iZ_eq, lZ_lt, lZ_le, lZ_eq, iZ_64, iZ_N, inb_Z, if_pos, if_neg, ↓reduceIte, Bool.true_eq_false, Bool.false_eq_true, li0, li1, li2, li3, li4, li5, li6, li9, li10, li16, li20, li23, li24, li25, li31, li33, li44, li48, li49, li50, li51, li57, li59, li60, li63, li69, li70, li71, li72, li74, li99, li100, li119, li126, li250, li296, li297, li298, li299, li300, li301, li302, li303, li606, li1515, li1818, li16384, li1048576, li2147483647, li10000, lj0, lj1, lj10000]
theorem Mzr (u : MS) (z : Nat → Int32) : M_reads (M_s_z u z) = M_reads u := rfl
theorem Mzf (u : MS) (z : Nat → Int32) : M_read (M_s_z u z) = M_read u := rfl
theorem r_drawL {u : MS} {s c : Int} {f : Nat → Int32} {P : Int → Int} (hs : 0 ≤ s ∧ s < 4) (hc : 0 ≤ c ∧ c ≤ 24) (h1 : M_reads u = iZ c) (h2 : M_read u = f) (hf : Row f c P) : ∃ z : Nat → Int32, lX6_draw_66 (iZ s) (iZ 0) u = some (M_s_z u z) ∧ PtsZ z s c P ∧ ∀ j : Int, 0 ≤ j → (j < 74 * s + 2 ∨ 74 * s + 74 ≤ j) → z j.toNat = M_z u j.toNat := by
  obtain ⟨r, q1, z, rfl, g1, g2⟩ := lp_up (f := bX6_draw_66 (iZ s)) (fun k st => ∃ z : Nat → Int32, st = (iZ k, M_s_z u z) ∧ PtsZ z s k P ∧ ∀ j : Int, 0 ≤ j → (j < 74 * s + 2 ∨ 74 * s + 74 ≤ j) → z j.toNat = M_z u j.toNat) (fun r => ∃ z : Nat → Int32, r = M_s_z u z ∧ PtsZ z s c P ∧ ∀ j : Int, 0 ≤ j → (j < 74 * s + 2 ∨ 74 * s + 74 ≤ j) → z j.toNat = M_z u j.toNat) (i := 0) (n := c) hc.1 (by
    rintro k st k0 k1 ⟨z, rfl, a1, a2⟩
    have x0 : f (3 * k).toNat = iZ (P (3 * k)) := hf _ (by omega) (by omega)
    have x1 : f (3 * k + 1).toNat = iZ (P (3 * k + 1)) := hf _ (by omega) (by omega)
    have x2 : f (3 * k + 2).toNat = iZ (P (3 * k + 2)) := hf _ (by omega) (by omega)
    have hp := r_put (u := M_s_z u z) (s := s) hs (k := k) (x := P (3 * k)) (y := P (3 * k + 1)) (w := P (3 * k + 2)) k0 (by omega)
    refine ⟨(iZ (k + 1), M_s_z u (mup z (74 * s + 2 + 3 * k) (P (3 * k)) (P (3 * k + 1)) (P (3 * k + 2)))), ?_, _, rfl, fun j j0 j1 => ?_, fun j j0 j1 => ?_⟩
    · simp (disch := omega) only [bX6_draw_66, Mzr, Mzf, h1, h2, x0, x1, x2, hp, Mzz, Mzz2, Mtt, Mtz, Mtl, Mtx, Sum.elim_inl, Sum.elim_inr, bi_tr, bi_fa, Sh_same, Sh_ss, gd_true, gd_dec, lt_def, bind_s, isb_0, isb_1, iZ_add, iZ_sub, iZ_mul, iZ_neg, lZ_add, lZ_sub, lZ_mul, iZ_lt, iZ_le, iZ_eq, lZ_lt, lZ_le, lZ_eq, iZ_64, iZ_N, inb_Z, if_pos, if_neg, ↓reduceIte, Bool.true_eq_false, Bool.false_eq_true, li0, li1, li2, li3, li4, li5, li6, li9, li10, li16, li20, li23, li24, li25, li31, li33, li44, li48, li49, li50, li51, li57, li59, li60, li63, li69, li70, li71, li72, li74, li99, li100, li119, li126, li250, li296, li297, li298, li299, li300, li301, li302, li303, li606, li1515, li1818, li16384, li1048576, li2147483647, li10000, lj0, lj1, lj10000]
    · rw [a1.add hs.1 k0 _ _ _ j j0 j1, setN_at]
      by_cases c0 : j = 3 * k
      · rw [if_pos c0, c0]
      · by_cases c1 : j = 3 * k + 1
        · rw [if_neg c0, if_pos c1, c1]
        · by_cases c2 : j = 3 * k + 2
          · rw [if_neg c0, if_neg c1, if_pos c2, c2]
          · rw [if_neg c0, if_neg c1, if_neg c2]
    · rw [mup_o (by omega) j0 (by omega)]
      exact a2 j j0 j1) (by
    rintro st ⟨z, rfl, a1, a2⟩
    refine ⟨M_s_z u z, ?_, z, rfl, a1, a2⟩
    simp (disch := omega) only [bX6_draw_66, Mzr, h1, Mzz, Mzz2, Mtt, Mtz, Mtl, Mtx, Sum.elim_inl, Sum.elim_inr, bi_tr, bi_fa, Sh_same, Sh_ss, gd_true, gd_dec, lt_def, bind_s, isb_0, isb_1, iZ_add, iZ_sub, iZ_mul, iZ_neg, lZ_add, lZ_sub, lZ_mul, iZ_lt, iZ_le, iZ_eq, lZ_lt, lZ_le, lZ_eq, iZ_64, iZ_N, inb_Z, if_pos, if_neg, ↓reduceIte, Bool.true_eq_false, Bool.false_eq_true, li0, li1, li2, li3, li4, li5, li6, li9, li10, li16, li20, li23, li24, li25, li31, li33, li44, li48, li49, li50, li51, li57, li59, li60, li63, li69, li70, li71, li72, li74, li99, li100, li119, li126, li250, li296, li297, li298, li299, li300, li301, li302, li303, li606, li1515, li1818, li16384, li1048576, li2147483647, li10000, lj0, lj1, lj10000]) (s := (iZ 0, u)) ⟨M_z u, rfl, fun j a b => by omega, fun j a b => rfl⟩
  exact ⟨z, q1, g1, g2⟩
section Q
variable {g : kG} {D : Nat → Nat → Nat} {R : kAd} {u : ShS} {ts : TS} {bs : SS} {ps : PS} {hs : HS} {ns : NS} {m : MS}
theorem g_append (G : GR u ts hs ns m) (p1 : Int32) : ∃ (o : (Nat × TS) ⊕ (Int32 × TS)) (b : Int32) (m' : MS), fX5_append p1 ts bs = some o ∧ fX6_append p1 m = some (b, m') ∧ Gst g [1, 2] D (obX5_append g D R u ts bs ps hs ns o) b m' := by
  obtain ⟨t, rfl, A⟩ := iZ_B p1
  obtain ⟨G1, G2, G3, L, tx, hL, f1, f2, f3⟩ := id G
  have f2' : M_length (M_s_thrown m (iZ 0)) = iZ L := f2
  by_cases ht : 33 ≤ t ∧ t ≤ 126
  · have c1 := btwY A (lo := 33) (hi := 126) (by omega) (by omega) ht
    have e1 := inY A (lo := 33) (hi := 126) (by omega) (by omega) ht
    by_cases h70 : L < 70
    · obtain ⟨cd, Lc, r1, r2, r3, r4, r5⟩ := ts
      have f1 : Lc = iZ L := f1
      subst f1
      have c2 : fX4_addCode (iZ t) (cd, iZ L, r1, r2, r3, r4, r5) bs = some (upd cd L.toNat (iZ t), iZ (L + 1), r1, r2, r3, r4, r5) := by
        have := c_putc (f := cd) (v := iZ t) (j := L) (na := 70) hL.1 h70 (by omega)
        unfold fX4_addCode
        simp (disch := omega) only [T_length, T_codes, T_s_codes, T_s_length, this, Mzz, Mzz2, Mtt, Mtz, Mtl, Mtx, Sum.elim_inl, Sum.elim_inr, bi_tr, bi_fa, Sh_same, Sh_ss, gd_true, gd_dec, lt_def, bind_s, isb_0, isb_1, iZ_add, iZ_sub, iZ_mul, iZ_neg, lZ_add, lZ_sub, lZ_mul, iZ_lt, iZ_le, iZ_eq, lZ_lt, lZ_le, lZ_eq, iZ_64, iZ_N, inb_Z, if_pos, if_neg, ↓reduceIte, Bool.true_eq_false, Bool.false_eq_true, li0, li1, li2, li3, li4, li5, li6, li9, li10, li16, li20, li23, li24, li25, li31, li33, li44, li48, li49, li50, li51, li57, li59, li60, li63, li69, li70, li71, li72, li74, li99, li100, li119, li126, li250, li296, li297, li298, li299, li300, li301, li302, li303, li606, li1515, li1818, li16384, li1048576, li2147483647, li10000, lj0, lj1, lj10000]
      have T2 : TR (upd cd L.toNat (iZ t), iZ (L + 1), r1, r2, r3, r4, r5) (upd (M_text m) L.toNat (iZ t)) (iZ (L + 1)) := by
        refine ⟨L + 1, fun k => if k = L then t else tx k, by omega, rfl, rfl, fun k k0 k1 => ?_⟩
        dsimp only
        by_cases e : k = L
        · subst e
          rw [if_pos rfl]
          exact ⟨upd_s, upd_s, ht⟩
        · rw [if_neg e]
          obtain ⟨b1, b2, b3⟩ := f3 k k0 (by omega)
          exact ⟨by show upd _ _ _ _ = _; rw [upd_n (by omega)]; exact b1, by rw [upd_n (by omega)]; exact b2, b3⟩
      refine ⟨.inr (iZ (L + 1), (upd cd L.toNat (iZ t), iZ (L + 1), r1, r2, r3, r4, r5)), iZ (L + 1), M_s_length (M_s_text (M_s_thrown m (iZ 0)) (upd (M_text (M_s_thrown m (iZ 0))) L.toNat (iZ t))) (iZ (L + 1)), ?_, ?_, Gst.r rfl (fun _ => WB.mk ⟨G1, G2, G3, T2⟩)⟩
      · unfold fX5_append fX4_length
        simp (disch := omega) only [c1, T_length, c2, Mzz, Mzz2, Mtt, Mtz, Mtl, Mtx, Sum.elim_inl, Sum.elim_inr, bi_tr, bi_fa, Sh_same, Sh_ss, gd_true, gd_dec, lt_def, bind_s, isb_0, isb_1, iZ_add, iZ_sub, iZ_mul, iZ_neg, lZ_add, lZ_sub, lZ_mul, iZ_lt, iZ_le, iZ_eq, lZ_lt, lZ_le, lZ_eq, iZ_64, iZ_N, inb_Z, if_pos, if_neg, ↓reduceIte, Bool.true_eq_false, Bool.false_eq_true, li0, li1, li2, li3, li4, li5, li6, li9, li10, li16, li20, li23, li24, li25, li31, li33, li44, li48, li49, li50, li51, li57, li59, li60, li63, li69, li70, li71, li72, li74, li99, li100, li119, li126, li250, li296, li297, li298, li299, li300, li301, li302, li303, li606, li1515, li1818, li16384, li1048576, li2147483647, li10000, lj0, lj1, lj10000]
      · have l1 : ∀ z : Nat → Int32, M_length (M_s_text (M_s_thrown m (iZ 0)) z) = iZ L := fun z => f2
        have l2 : ∀ (z : Nat → Int32) (v : Int32), M_length (M_s_length (M_s_text (M_s_thrown m (iZ 0)) z) v) = v := fun z v => rfl
        unfold fX6_append
        simp (disch := omega) only [e1, f2, f2', l1, l2, Mzz, Mzz2, Mtt, Mtz, Mtl, Mtx, Sum.elim_inl, Sum.elim_inr, bi_tr, bi_fa, Sh_same, Sh_ss, gd_true, gd_dec, lt_def, bind_s, isb_0, isb_1, iZ_add, iZ_sub, iZ_mul, iZ_neg, lZ_add, lZ_sub, lZ_mul, iZ_lt, iZ_le, iZ_eq, lZ_lt, lZ_le, lZ_eq, iZ_64, iZ_N, inb_Z, if_pos, if_neg, ↓reduceIte, Bool.true_eq_false, Bool.false_eq_true, li0, li1, li2, li3, li4, li5, li6, li9, li10, li16, li20, li23, li24, li25, li31, li33, li44, li48, li49, li50, li51, li57, li59, li60, li63, li69, li70, li71, li72, li74, li99, li100, li119, li126, li250, li296, li297, li298, li299, li300, li301, li302, li303, li606, li1515, li1818, li16384, li1048576, li2147483647, li10000, lj0, lj1, lj10000]
    · have : L = 70 := by omega
      subst this
      refine ⟨.inl (2, ts), iZ 0, M_s_thrown m (iZ 2), ?_, ?_, Gst.l 1 rfl rfl (fun _ => WB.mk G)⟩
      · unfold fX5_append fX4_length
        simp (disch := omega) only [c1, f1, Mzz, Mzz2, Mtt, Mtz, Mtl, Mtx, Sum.elim_inl, Sum.elim_inr, bi_tr, bi_fa, Sh_same, Sh_ss, gd_true, gd_dec, lt_def, bind_s, isb_0, isb_1, iZ_add, iZ_sub, iZ_mul, iZ_neg, lZ_add, lZ_sub, lZ_mul, iZ_lt, iZ_le, iZ_eq, lZ_lt, lZ_le, lZ_eq, iZ_64, iZ_N, inb_Z, if_pos, if_neg, ↓reduceIte, Bool.true_eq_false, Bool.false_eq_true, li0, li1, li2, li3, li4, li5, li6, li9, li10, li16, li20, li23, li24, li25, li31, li33, li44, li48, li49, li50, li51, li57, li59, li60, li63, li69, li70, li71, li72, li74, li99, li100, li119, li126, li250, li296, li297, li298, li299, li300, li301, li302, li303, li606, li1515, li1818, li16384, li1048576, li2147483647, li10000, lj0, lj1, lj10000]
      · unfold fX6_append
        simp (disch := omega) only [e1, f2, Mzz, Mzz2, Mtt, Mtz, Mtl, Mtx, Sum.elim_inl, Sum.elim_inr, bi_tr, bi_fa, Sh_same, Sh_ss, gd_true, gd_dec, lt_def, bind_s, isb_0, isb_1, iZ_add, iZ_sub, iZ_mul, iZ_neg, lZ_add, lZ_sub, lZ_mul, iZ_lt, iZ_le, iZ_eq, lZ_lt, lZ_le, lZ_eq, iZ_64, iZ_N, inb_Z, if_pos, if_neg, ↓reduceIte, Bool.true_eq_false, Bool.false_eq_true, li0, li1, li2, li3, li4, li5, li6, li9, li10, li16, li20, li23, li24, li25, li31, li33, li44, li48, li49, li50, li51, li57, li59, li60, li63, li69, li70, li71, li72, li74, li99, li100, li119, li126, li250, li296, li297, li298, li299, li300, li301, li302, li303, li606, li1515, li1818, li16384, li1048576, li2147483647, li10000, lj0, lj1, lj10000]
  · have c1 := btwN A (lo := 33) (hi := 126) (by omega) (by omega) ht
    have e1 := inN A (lo := 33) (hi := 126) (by omega) (by omega) ht
    refine ⟨.inl (1, ts), iZ 0, M_s_thrown m (iZ 1), ?_, ?_, Gst.l 0 rfl rfl (fun _ => WB.mk G)⟩
    · unfold fX5_append
      simp (disch := omega) only [c1, Mzz, Mzz2, Mtt, Mtz, Mtl, Mtx, Sum.elim_inl, Sum.elim_inr, bi_tr, bi_fa, Sh_same, Sh_ss, gd_true, gd_dec, lt_def, bind_s, isb_0, isb_1, iZ_add, iZ_sub, iZ_mul, iZ_neg, lZ_add, lZ_sub, lZ_mul, iZ_lt, iZ_le, iZ_eq, lZ_lt, lZ_le, lZ_eq, iZ_64, iZ_N, inb_Z, if_pos, if_neg, ↓reduceIte, Bool.true_eq_false, Bool.false_eq_true, li0, li1, li2, li3, li4, li5, li6, li9, li10, li16, li20, li23, li24, li25, li31, li33, li44, li48, li49, li50, li51, li57, li59, li60, li63, li69, li70, li71, li72, li74, li99, li100, li119, li126, li250, li296, li297, li298, li299, li300, li301, li302, li303, li606, li1515, li1818, li16384, li1048576, li2147483647, li10000, lj0, lj1, lj10000]
    · unfold fX6_append
      simp (disch := omega) only [e1, Mzz, Mzz2, Mtt, Mtz, Mtl, Mtx, Sum.elim_inl, Sum.elim_inr, bi_tr, bi_fa, Sh_same, Sh_ss, gd_true, gd_dec, lt_def, bind_s, isb_0, isb_1, iZ_add, iZ_sub, iZ_mul, iZ_neg, lZ_add, lZ_sub, lZ_mul, iZ_lt, iZ_le, iZ_eq, lZ_lt, lZ_le, lZ_eq, iZ_64, iZ_N, inb_Z, if_pos, if_neg, ↓reduceIte, Bool.true_eq_false, Bool.false_eq_true, li0, li1, li2, li3, li4, li5, li6, li9, li10, li16, li20, li23, li24, li25, li31, li33, li44, li48, li49, li50, li51, li57, li59, li60, li63, li69, li70, li71, li72, li74, li99, li100, li119, li126, li250, li296, li297, li298, li299, li300, li301, li302, li303, li606, li1515, li1818, li16384, li1048576, li2147483647, li10000, lj0, lj1, lj10000]
theorem g_clearBuffer (G : GR u ts hs ns m) : ∃ (o : (Nat × TS) ⊕ (Int32 × TS)) (b : Int32) (m' : MS), fX5_clearBuffer ts bs = some o ∧ fX6_clearBuffer m = some (b, m') ∧ Gst g [] D (obX5_clearBuffer g D R u ts bs ps hs ns o) b m' := by
  obtain ⟨G1, G2, G3, L, tx, hL, f1, f2, f3⟩ := id G
  refine ⟨.inr (iZ L, T_s_length ts (iZ 0)), iZ L, M_s_length (M_s_thrown m (iZ 0)) (iZ 0), ?_, ?_, Gst.r rfl (fun _ => WB.mk ⟨G1, G2, G3, 0, fun _ => 0, by omega, rfl, rfl, fun k a b => by omega⟩)⟩
  · unfold fX5_clearBuffer fX4_length fX4_empty
    simp (disch := omega) only [f1, Mzz, Mzz2, Mtt, Mtz, Mtl, Mtx, Sum.elim_inl, Sum.elim_inr, bi_tr, bi_fa, Sh_same, Sh_ss, gd_true, gd_dec, lt_def, bind_s, isb_0, isb_1, iZ_add, iZ_sub, iZ_mul, iZ_neg, lZ_add, lZ_sub, lZ_mul, iZ_lt, iZ_le, iZ_eq, lZ_lt, lZ_le, lZ_eq, iZ_64, iZ_N, inb_Z, if_pos, if_neg, ↓reduceIte, Bool.true_eq_false, Bool.false_eq_true, li0, li1, li2, li3, li4, li5, li6, li9, li10, li16, li20, li23, li24, li25, li31, li33, li44, li48, li49, li50, li51, li57, li59, li60, li63, li69, li70, li71, li72, li74, li99, li100, li119, li126, li250, li296, li297, li298, li299, li300, li301, li302, li303, li606, li1515, li1818, li16384, li1048576, li2147483647, li10000, lj0, lj1, lj10000]
  · have f2' : M_length (M_s_thrown m (iZ 0)) = iZ L := f2
    unfold fX6_clearBuffer
    simp (disch := omega) only [f2', Mzz, Mzz2, Mtt, Mtz, Mtl, Mtx, Sum.elim_inl, Sum.elim_inr, bi_tr, bi_fa, Sh_same, Sh_ss, gd_true, gd_dec, lt_def, bind_s, isb_0, isb_1, iZ_add, iZ_sub, iZ_mul, iZ_neg, lZ_add, lZ_sub, lZ_mul, iZ_lt, iZ_le, iZ_eq, lZ_lt, lZ_le, lZ_eq, iZ_64, iZ_N, inb_Z, if_pos, if_neg, ↓reduceIte, Bool.true_eq_false, Bool.false_eq_true, li0, li1, li2, li3, li4, li5, li6, li9, li10, li16, li20, li23, li24, li25, li31, li33, li44, li48, li49, li50, li51, li57, li59, li60, li63, li69, li70, li71, li72, li74, li99, li100, li119, li126, li250, li296, li297, li298, li299, li300, li301, li302, li303, li606, li1515, li1818, li16384, li1048576, li2147483647, li10000, lj0, lj1, lj10000]
theorem g_firstError (G : GR u ts hs ns m) : ∃ (o : (Nat × TS × SS) ⊕ (Int32 × TS × SS)) (b : Int32) (m' : MS), fX5_firstError ts bs = some o ∧ fX6_firstError m = some (b, m') ∧ Gst g [] D (obX5_firstError g D R u ts bs ps hs ns o) b m' := by
  obtain ⟨G1, G2, G3, L, tx, hL, f1, f2, f3⟩ := id G
  obtain ⟨cd, Lc, r1, r2, r3, r4, r5⟩ := ts
  have f1 : Lc = iZ L := f1
  subst f1
  obtain ⟨mm, sz, kk⟩ := bs
  obtain ⟨e, st, m', h1, h2, h3, h4⟩ := c_rte (mm := mm) hL (fun k a b => (f3 k a b).1) (fun k a b => (f3 k a b).2.2) r1 r2 r3 r4 r5 sz kk
  have X : Txt (M_s_thrown m (iZ 0)) L tx := ⟨hL, f2, fun k a b => (f3 k a b).2⟩
  obtain ⟨⟨qa, qb⟩, k1, e', st', k2, k3⟩ := r_error X (x0 := r4.toInt) (y0 := r5.toInt)
  obtain ⟨rfl, rfl⟩ := h1.uniq k2
  have e01 := h1.1
  have TT : TR (tS cd (iZ L) st) (M_text m) (M_length m) := ⟨L, tx, hL, rfl, f2, fun k a b => f3 k a b⟩
  have T9 : GR u (tS cd (iZ L) st) hs ns (M_s_thrown m (iZ 0)) := ⟨G1, G2, G3, TT⟩
  have c1 : fX5_firstError (cd, iZ L, r1, r2, r3, r4, r5) (mm, sz, kk) = some (.inr (iZ e, tS cd (iZ L) st, bS m' st)) := by
    unfold fX5_firstError
    simp (disch := omega) only [h2, Mzz, Mzz2, Mtt, Mtz, Mtl, Mtx, Sum.elim_inl, Sum.elim_inr, bi_tr, bi_fa, Sh_same, Sh_ss, gd_true, gd_dec, lt_def, bind_s, isb_0, isb_1, iZ_add, iZ_sub, iZ_mul, iZ_neg, lZ_add, lZ_sub, lZ_mul, iZ_lt, iZ_le, iZ_eq, lZ_lt, lZ_le, lZ_eq, iZ_64, iZ_N, inb_Z, if_pos, if_neg, ↓reduceIte, Bool.true_eq_false, Bool.false_eq_true, li0, li1, li2, li3, li4, li5, li6, li9, li10, li16, li20, li23, li24, li25, li31, li33, li44, li48, li49, li50, li51, li57, li59, li60, li63, li69, li70, li71, li72, li74, li99, li100, li119, li126, li250, li296, li297, li298, li299, li300, li301, li302, li303, li606, li1515, li1818, li16384, li1048576, li2147483647, li10000, lj0, lj1, lj10000]
  rcases k3 with ⟨b1, b2, -, -, f', b3, -⟩ | ⟨b1, -, a9, b9, c9, f', b3⟩
  · have b1 : qa = iZ (-1) := b1
    have b3 : qb = _ := b3
    have l1 : M_length qb = iZ L := by rw [b3]; exact f2
    refine ⟨.inr (iZ e, tS cd (iZ L) st, bS m' st), iZ e, qb, c1, ?_, Gst.r (by rw [b3]; rfl) (fun _ => WB.mk (by rw [b3]; exact GR.sm T9 PR_same))⟩
    rw [b2]
    unfold fX6_firstError
    simp (disch := omega) only [k1, b1, l1, Mzz, Mzz2, Mtt, Mtz, Mtl, Mtx, Sum.elim_inl, Sum.elim_inr, bi_tr, bi_fa, Sh_same, Sh_ss, gd_true, gd_dec, lt_def, bind_s, isb_0, isb_1, iZ_add, iZ_sub, iZ_mul, iZ_neg, lZ_add, lZ_sub, lZ_mul, iZ_lt, iZ_le, iZ_eq, lZ_lt, lZ_le, lZ_eq, iZ_64, iZ_N, inb_Z, if_pos, if_neg, ↓reduceIte, Bool.true_eq_false, Bool.false_eq_true, li0, li1, li2, li3, li4, li5, li6, li9, li10, li16, li20, li23, li24, li25, li31, li33, li44, li48, li49, li50, li51, li57, li59, li60, li63, li69, li70, li71, li72, li74, li99, li100, li119, li126, li250, li296, li297, li298, li299, li300, li301, li302, li303, li606, li1515, li1818, li16384, li1048576, li2147483647, li10000, lj0, lj1, lj10000]
  · have b1 : qa = iZ e := b1
    have b3 : qb = _ := b3
    refine ⟨.inr (iZ e, tS cd (iZ L) st, bS m' st), iZ e, qb, c1, ?_, Gst.r (by rw [b3]; rfl) (fun _ => WB.mk (by rw [b3]; exact GR.sm T9 PR_same))⟩
    unfold fX6_firstError
    simp (disch := omega) only [k1, b1, Mzz, Mzz2, Mtt, Mtz, Mtl, Mtx, Sum.elim_inl, Sum.elim_inr, bi_tr, bi_fa, Sh_same, Sh_ss, gd_true, gd_dec, lt_def, bind_s, isb_0, isb_1, iZ_add, iZ_sub, iZ_mul, iZ_neg, lZ_add, lZ_sub, lZ_mul, iZ_lt, iZ_le, iZ_eq, lZ_lt, lZ_le, lZ_eq, iZ_64, iZ_N, inb_Z, if_pos, if_neg, ↓reduceIte, Bool.true_eq_false, Bool.false_eq_true, li0, li1, li2, li3, li4, li5, li6, li9, li10, li16, li20, li23, li24, li25, li31, li33, li44, li48, li49, li50, li51, li57, li59, li60, li63, li69, li70, li71, li72, li74, li99, li100, li119, li126, li250, li296, li297, li298, li299, li300, li301, li302, li303, li606, li1515, li1818, li16384, li1048576, li2147483647, li10000, lj0, lj1, lj10000]
theorem g_draw (G : GR u ts hs ns m) : ∃ (o : (Nat × ShS × TS × SS × HS) ⊕ (Int32 × ShS × TS × SS × HS)) (b : Int32) (m' : MS), fX5_draw u ts bs hs = some o ∧ fX6_draw m = some (b, m') ∧ Gst g [1, 2] D (obX5_draw g D R u ts bs ps hs ns o) b m' := by
  obtain ⟨⟨sc, S⟩, -⟩ := id G
  have hsc := S.1
  have hz : M_z m (296 : Int).toNat = iZ sc := S.2.2.1
  obtain ⟨G1, G2, G3, L, tx, hL, f1, f2, f3⟩ := id G
  obtain ⟨cd, Lc, r1, r2, r3, r4, r5⟩ := ts
  have f1 : Lc = iZ L := f1
  subst f1
  obtain ⟨mm, sz, kk⟩ := bs
  obtain ⟨e, st, h1, h4, h5⟩ := c_tells (mm := mm) hL (fun k a b => (f3 k a b).1) (fun k a b => (f3 k a b).2.2) r1 r2 r3 r4 r5 sz kk
  have X : Txt m L tx := ⟨hL, f2, fun k a b => (f3 k a b).2⟩
  obtain ⟨⟨qa, qb⟩, k1, e', st', k2, k3⟩ := r_error X (x0 := r4.toInt) (y0 := r5.toInt)
  obtain ⟨rfl, rfl⟩ := h1.uniq k2
  have e01 := h1.1
  have TT : TR (tS cd (iZ L) st) (M_text m) (M_length m) := ⟨L, tx, hL, rfl, f2, fun k a b => f3 k a b⟩
  have T9 : GR u (tS cd (iZ L) st) hs ns m := ⟨G1, G2, G3, TT⟩
  rcases h5 with ⟨n1, bs', h6⟩ | ⟨y1, m', h6, h7, h8⟩
  · rcases k3 with ⟨b1, b2, b4, b5, -⟩ | ⟨b1, -, a9, b9, c9, f', b3⟩
    · exact absurd ⟨b2, b4, b5⟩ n1
    · have b1 : qa = iZ e := b1
      have b3 : qb = _ := b3
      refine ⟨.inl (1, u, tS cd (iZ L) st, bs', hs), iZ 0, M_s_thrown qb (iZ 1), ?_, ?_, Gst.l 0 rfl rfl (fun _ => WB.mk (GR.th (by rw [b3]; exact GR.sm T9 PR_same) (iZ 1)))⟩
      · unfold fX5_draw
        simp (disch := omega) only [h6, Mzz, Mzz2, Mtt, Mtz, Mtl, Mtx, Sum.elim_inl, Sum.elim_inr, bi_tr, bi_fa, Sh_same, Sh_ss, gd_true, gd_dec, lt_def, bind_s, isb_0, isb_1, iZ_add, iZ_sub, iZ_mul, iZ_neg, lZ_add, lZ_sub, lZ_mul, iZ_lt, iZ_le, iZ_eq, lZ_lt, lZ_le, lZ_eq, iZ_64, iZ_N, inb_Z, if_pos, if_neg, ↓reduceIte, Bool.true_eq_false, Bool.false_eq_true, li0, li1, li2, li3, li4, li5, li6, li9, li10, li16, li20, li23, li24, li25, li31, li33, li44, li48, li49, li50, li51, li57, li59, li60, li63, li69, li70, li71, li72, li74, li99, li100, li119, li126, li250, li296, li297, li298, li299, li300, li301, li302, li303, li606, li1515, li1818, li16384, li1048576, li2147483647, li10000, lj0, lj1, lj10000]
      · unfold fX6_draw
        simp (disch := omega) only [k1, b1, Mzz, Mzz2, Mtt, Mtz, Mtl, Mtx, Sum.elim_inl, Sum.elim_inr, bi_tr, bi_fa, Sh_same, Sh_ss, gd_true, gd_dec, lt_def, bind_s, isb_0, isb_1, iZ_add, iZ_sub, iZ_mul, iZ_neg, lZ_add, lZ_sub, lZ_mul, iZ_lt, iZ_le, iZ_eq, lZ_lt, lZ_le, lZ_eq, iZ_64, iZ_N, inb_Z, if_pos, if_neg, ↓reduceIte, Bool.true_eq_false, Bool.false_eq_true, li0, li1, li2, li3, li4, li5, li6, li9, li10, li16, li20, li23, li24, li25, li31, li33, li44, li48, li49, li50, li51, li57, li59, li60, li63, li69, li70, li71, li72, li74, li99, li100, li119, li126, li250, li296, li297, li298, li299, li300, li301, li302, li303, li606, li1515, li1818, li16384, li1048576, li2147483647, li10000, lj0, lj1, lj10000]
  · rcases k3 with ⟨b1, b2, b4, b5, f', b3, b6⟩ | ⟨b1, b2, -⟩
    · have b1 : qa = iZ (-1) := b1
      have b3 : qb = PR m L 0 (st.2.2.2.2.2.1 + 1) f' := b3
      obtain ⟨pt, dg, nm, sx, sy, c, P⟩ := st
      obtain ⟨-, -, -, -, -, -, -, b8, -⟩ := id h4
      have GQ : GR u (tS cd (iZ L) (pt, dg, nm, sx, sy, c, P)) hs ns qb := by
        rw [b3]
        exact GR.sm T9 PR_same
      have hzq : M_z qb (296 : Int).toNat = iZ sc := by
        rw [b3]
        exact hz
      have hrd : M_reads qb = iZ (c + 1) := by rw [b3]; rfl
      have hrf : M_read qb = f' := by rw [b3]; rfl
      have b6 : Row f' (c + 1) (endP pt nm sx sy c P) := b6
      have h7 : Row m' (c + 1) (endP pt nm sx sy c P) := h7
      have h8 : Crd (c + 1) (endP pt nm sx sy c P) := h8
      have h6 : fX4_tellsStroke (cd, iZ L, r1, r2, r3, r4, r5) (mm, sz, kk) = some (iZ 1, tS cd (iZ L) (pt, dg, nm, sx, sy, c, P), (m', iZ (c + 1), allK (c + 1))) := h6
      have b5 : 1 ≤ c := b5
      by_cases hr : sc < 4
      · have c3 := roomY S hr
        obtain ⟨hs', m2, s1, s2, s3, s4, -, s7, s8, s5⟩ := g_rec2 (GQ.th (iZ 0))
        have s3 : M_z m2 = M_z qb := s3
        have s7 : M_read m2 = M_read qb := s7
        have s8 : M_reads m2 = M_reads qb := s8
        have c4 := c_open S.2.1 hsc.1 hr
        obtain ⟨m9, c5, c6⟩ := c_copySt (S_numbers (Sh_st u sc.toNat), iZ 0, iZ 0) (K := allK (c + 1)) h7 (by omega)
        have hz2 : M_z m2 (296 : Int).toNat = iZ sc := by rw [s3]; exact hzq
        obtain ⟨zb, d1, d2, d3, d4, d5⟩ := r_begin (u := m2) (n := c + 1) hz2 hsc.1 hr (by omega) (by omega)
        have rd2 : M_reads m2 = iZ (c + 1) := by rw [s8]; exact hrd
        obtain ⟨zd, d6, d7, d8⟩ := r_drawL (u := M_s_z m2 zb) (s := sc) (c := c + 1) ⟨hsc.1, hr⟩ (by omega) rd2 (show M_read m2 = f' by rw [s7]; exact hrf) b6
        have d8 : ∀ j : Int, 0 ≤ j → (j < 74 * sc + 2 ∨ 74 * sc + 74 ≤ j) → zd j.toNat = zb j.toNat := d8
        have st1 : ∀ x : SS, Sh_st (Sh_s_strokeCount (Sh_s_st u sc.toNat x) (iZ (sc + 1))) sc.toNat = x := fun x => Sh_same u sc.toNat x
        have st2 : ∀ (x : SS), Sh_strokeCount (Sh_s_strokeCount (Sh_s_st u sc.toNat x) (iZ (sc + 1))) = iZ (sc + 1) := fun x => rfl
        have zq : M_z qb = M_z m := by rw [b3]; rfl
        have SX := S.push (z' := zd) (x := (m9, iZ (c + 1), allK (c + 1))) hr (by rw [d8 _ (by omega) (by omega)]; exact d2) (fun j j0 j1 j2 => by
          rw [d8 j j0 (by omega), d5 j j0 j1 (by omega) (by omega), s3, zq]) ⟨c + 1, endP pt nm sx sy c P, allK (c + 1), m9, rfl, c6, MK_all (by omega), h8, by rw [d8 _ (by omega) (by omega)]; exact d3, by rw [d8 _ (by omega) (by omega)]; exact d4, d7⟩
        obtain ⟨g1, g2, g3, -⟩ := s5 _ _ _ SX
        refine ⟨.inr (iZ sc, Sh_s_strokeCount (Sh_s_st u sc.toNat (m9, iZ (c + 1), allK (c + 1))) (iZ (sc + 1)), T_s_length (tS cd (iZ L) (pt, dg, nm, sx, sy, c, P)) (iZ 0), (m', iZ (c + 1), allK (c + 1)), hs'), iZ sc, M_s_length (M_s_z m2 zd) (iZ 0), ?_, ?_, Gst.r (show M_thrown m2 = iZ 0 from s4) (fun _ => WB.mk ⟨g1, g2, g3, 0, fun _ => 0, by omega, rfl, rfl, fun k a b => by omega⟩)⟩
        · have e9 : sc + 1 - 1 = sc := by omega
          unfold fX5_draw fX4_told fX4_empty
          simp (disch := omega) only [h6, c3, s1, c4, st1, c5, Sh_cs, st2, fX1_strokeCount, e9, Mzz, Mzz2, Mtt, Mtz, Mtl, Mtx, Sum.elim_inl, Sum.elim_inr, bi_tr, bi_fa, Sh_same, Sh_ss, gd_true, gd_dec, lt_def, bind_s, isb_0, isb_1, iZ_add, iZ_sub, iZ_mul, iZ_neg, lZ_add, lZ_sub, lZ_mul, iZ_lt, iZ_le, iZ_eq, lZ_lt, lZ_le, lZ_eq, iZ_64, iZ_N, inb_Z, if_pos, if_neg, ↓reduceIte, Bool.true_eq_false, Bool.false_eq_true, li0, li1, li2, li3, li4, li5, li6, li9, li10, li16, li20, li23, li24, li25, li31, li33, li44, li48, li49, li50, li51, li57, li59, li60, li63, li69, li70, li71, li72, li74, li99, li100, li119, li126, li250, li296, li297, li298, li299, li300, li301, li302, li303, li606, li1515, li1818, li16384, li1048576, li2147483647, li10000, lj0, lj1, lj10000]
        · unfold fX6_draw
          simp (disch := omega) only [k1, b1, hzq, s2, rd2, d1, d6, Mzz, Mzz2, Mtt, Mtz, Mtl, Mtx, Sum.elim_inl, Sum.elim_inr, bi_tr, bi_fa, Sh_same, Sh_ss, gd_true, gd_dec, lt_def, bind_s, isb_0, isb_1, iZ_add, iZ_sub, iZ_mul, iZ_neg, lZ_add, lZ_sub, lZ_mul, iZ_lt, iZ_le, iZ_eq, lZ_lt, lZ_le, lZ_eq, iZ_64, iZ_N, inb_Z, if_pos, if_neg, ↓reduceIte, Bool.true_eq_false, Bool.false_eq_true, li0, li1, li2, li3, li4, li5, li6, li9, li10, li16, li20, li23, li24, li25, li31, li33, li44, li48, li49, li50, li51, li57, li59, li60, li63, li69, li70, li71, li72, li74, li99, li100, li119, li126, li250, li296, li297, li298, li299, li300, li301, li302, li303, li606, li1515, li1818, li16384, li1048576, li2147483647, li10000, lj0, lj1, lj10000]
      · have c3 := roomN S hr
        have : sc = 4 := by omega
        subst this
        refine ⟨.inl (2, u, tS cd (iZ L) (pt, dg, nm, sx, sy, c, P), (m', iZ (c + 1), allK (c + 1)), hs), iZ 0, M_s_thrown qb (iZ 2), ?_, ?_, Gst.l 1 rfl rfl (fun _ => WB.mk (GQ.th (iZ 2)))⟩
        · unfold fX5_draw
          simp (disch := omega) only [h6, c3, Mzz, Mzz2, Mtt, Mtz, Mtl, Mtx, Sum.elim_inl, Sum.elim_inr, bi_tr, bi_fa, Sh_same, Sh_ss, gd_true, gd_dec, lt_def, bind_s, isb_0, isb_1, iZ_add, iZ_sub, iZ_mul, iZ_neg, lZ_add, lZ_sub, lZ_mul, iZ_lt, iZ_le, iZ_eq, lZ_lt, lZ_le, lZ_eq, iZ_64, iZ_N, inb_Z, if_pos, if_neg, ↓reduceIte, Bool.true_eq_false, Bool.false_eq_true, li0, li1, li2, li3, li4, li5, li6, li9, li10, li16, li20, li23, li24, li25, li31, li33, li44, li48, li49, li50, li51, li57, li59, li60, li63, li69, li70, li71, li72, li74, li99, li100, li119, li126, li250, li296, li297, li298, li299, li300, li301, li302, li303, li606, li1515, li1818, li16384, li1048576, li2147483647, li10000, lj0, lj1, lj10000]
        · unfold fX6_draw
          simp (disch := omega) only [k1, b1, hzq, Mzz, Mzz2, Mtt, Mtz, Mtl, Mtx, Sum.elim_inl, Sum.elim_inr, bi_tr, bi_fa, Sh_same, Sh_ss, gd_true, gd_dec, lt_def, bind_s, isb_0, isb_1, iZ_add, iZ_sub, iZ_mul, iZ_neg, lZ_add, lZ_sub, lZ_mul, iZ_lt, iZ_le, iZ_eq, lZ_lt, lZ_le, lZ_eq, iZ_64, iZ_N, inb_Z, if_pos, if_neg, ↓reduceIte, Bool.true_eq_false, Bool.false_eq_true, li0, li1, li2, li3, li4, li5, li6, li9, li10, li16, li20, li23, li24, li25, li31, li33, li44, li48, li49, li50, li51, li57, li59, li60, li63, li69, li70, li71, li72, li74, li99, li100, li119, li126, li250, li296, li297, li298, li299, li300, li301, li302, li303, li606, li1515, li1818, li16384, li1048576, li2147483647, li10000, lj0, lj1, lj10000]
    · exact absurd y1 b2
end Q
end
