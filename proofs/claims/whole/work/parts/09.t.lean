section
/-! the whole: strokes change -/
theorem Sh_same (u : ShS) (i : Nat) (v : SS) : Sh_st (Sh_s_st u i v) i = v := if_pos rfl
theorem Sh_ss (u : ShS) (i : Nat) (v w : SS) : Sh_s_st (Sh_s_st u i v) i w = Sh_s_st u i w := by
  unfold Sh_s_st
  refine Prod.ext (funext fun j => ?_) rfl
  show (if j = i then w else if j = i then v else u.1 j) = if j = i then w else u.1 j
  by_cases h : j = i
  · rw [if_pos h, if_pos h]
  · rw [if_neg h, if_neg h, if_neg h]
theorem Sh_cs (u : ShS) (i : Nat) (v w : SS) (c : Int32) : Sh_s_st (Sh_s_strokeCount (Sh_s_st u i v) c) i w = Sh_s_strokeCount (Sh_s_st u i w) c := by
  have := Sh_ss u i v w
  unfold Sh_s_st at this ⊢
  have h1 := congrArg Prod.fst this
  exact Prod.ext h1 rfl
theorem sameM.z {u v : MS} (h : sameM u v) (z : Nat → Int32) : sameM (M_s_z u z) (M_s_z v z) := ⟨rfl, h.2.1, h.2.2.1, h.2.2.2.1, h.2.2.2.2.1, h.2.2.2.2.2.1, h.2.2.2.2.2.2.1, h.2.2.2.2.2.2.2⟩
theorem g_rec2 {u : ShS} {ts : TS} {hs : HS} {ns : NS} {m : MS} (G : GR u ts hs ns m) : ∃ (hs' : HS) (m2 : MS), fX0_save hs u = some hs' ∧ fX6_record m = some m2 ∧ M_z m2 = M_z m ∧ M_thrown m2 = M_thrown m ∧ M_slots m2 = M_slots m ∧ M_read m2 = M_read m ∧ M_reads m2 = M_reads m ∧ ∀ (u' : ShS) (z' : Nat → Int32) (sc' : Int), SR u' z' sc' → GR u' ts hs' ns (M_s_z m2 z') := by
  obtain ⟨⟨sc, h1⟩, ⟨c, h2, h3⟩, h4, h5⟩ := G
  obtain ⟨o, ho, hc, -⟩ := id h3
  obtain ⟨sv, a1, a2⟩ := r_record h2 hc.1 hc.2
  obtain ⟨hs', b1, b2⟩ := c_save h3 h1 a2
  exact ⟨hs', _, b1, a1, rfl, rfl, rfl, rfl, rfl, fun u' z' sc' S => ⟨⟨sc', S⟩, ⟨cs c + 1, rfl, b2⟩, h4, h5⟩⟩
-- rows of points
theorem Crd.set {n : Int} {N : Int → Int} (h : Crd n N) {i a b w : Int} (ha : 0 ≤ a ∧ a ≤ 99) (hb : 0 ≤ b ∧ b ≤ 99) (hw : 1 ≤ w ∧ w ≤ 20) : Crd n (setN N i a b w) := fun k k0 k1 => by
  by_cases e : k = i
  · subst e
    rw [setN_at, setN_at, setN_at, if_pos rfl, if_neg (by omega), if_pos rfl, if_neg (by omega), if_neg (by omega), if_pos rfl]
    exact ⟨ha, hb, hw⟩
  · rw [setN_at, setN_at, setN_at, if_neg (by omega), if_neg (by omega), if_neg (by omega), if_neg (by omega), if_neg (by omega), if_neg (by omega), if_neg (by omega), if_neg (by omega), if_neg (by omega)]
    exact h k k0 k1
theorem Crd.ins {n : Int} {N : Int → Int} (h : Crd n N) {i a b w : Int} (i0 : 0 ≤ i) (i1 : i ≤ n) (ha : 0 ≤ a ∧ a ≤ 99) (hb : 0 ≤ b ∧ b ≤ 99) (hw : 1 ≤ w ∧ w ≤ 20) : Crd (n + 1) (insN N i a b w) := fun k k0 k1 => by
  unfold insN
  by_cases e : k < i
  · rw [if_pos (by omega), if_pos (by omega), if_pos (by omega)]
    exact h k k0 (by omega)
  · by_cases e2 : k = i
    · subst e2
      rw [if_neg (by omega), if_pos rfl, if_neg (by omega), if_neg (by omega), if_pos rfl, if_neg (by omega), if_neg (by omega), if_neg (by omega), if_pos rfl]
      exact ⟨ha, hb, hw⟩
    · rw [if_neg (by omega), if_neg (by omega), if_neg (by omega), if_neg (by omega), if_neg (by omega), if_neg (by omega), if_neg (by omega), if_neg (by omega), if_neg (by omega), if_neg (by omega), if_neg (by omega), if_neg (by omega)]
      rw [show 3 * k - 3 = 3 * (k - 1) by omega, show 3 * k + 1 - 3 = 3 * (k - 1) + 1 by omega, show 3 * k + 2 - 3 = 3 * (k - 1) + 2 by omega]
      exact h (k - 1) (by omega) (by omega)
theorem Crd.del {n : Int} {N : Int → Int} (h : Crd n N) {i : Int} (i0 : 0 ≤ i) : Crd (n - 1) (delN N i) := fun k k0 k1 => by
  unfold delN
  by_cases e : k < i
  · rw [if_pos (by omega), if_pos (by omega), if_pos (by omega)]
    exact h k k0 (by omega)
  · rw [if_neg (by omega), if_neg (by omega), if_neg (by omega)]
    rw [show 3 * k + 3 = 3 * (k + 1) by omega, show 3 * k + 1 + 3 = 3 * (k + 1) + 1 by omega, show 3 * k + 2 + 3 = 3 * (k + 1) + 2 by omega]
    exact h (k + 1) (by omega) (by omega)
theorem Row.set {m : Nat → Int32} {n : Int} {N : Int → Int} (h : Row m n N) {i : Int} (i0 : 0 ≤ i) (a b w : Int) : Row (mup m (3 * i) a b w) n (setN N i a b w) := fun j j0 j1 => by
  rw [mup_at (by omega) j0, setN_at]
  by_cases e0 : j = 3 * i
  · rw [if_pos e0, if_pos e0]
  · by_cases e1 : j = 3 * i + 1
    · rw [if_neg e0, if_neg e0, if_pos e1, if_pos e1]
    · by_cases e2 : j = 3 * i + 2
      · rw [if_neg e0, if_neg e0, if_neg e1, if_neg e1, if_pos e2, if_pos e2]
      · rw [if_neg e0, if_neg e0, if_neg e1, if_neg e1, if_neg e2, if_neg e2]
        exact h j j0 j1
def PtsZ (z : Nat → Int32) (s c : Int) (P : Int → Int) : Prop := ∀ j : Int, 0 ≤ j → j < 3 * c → z (74 * s + 2 + j).toNat = iZ (P j)
theorem PtsZ.set {z : Nat → Int32} {s n : Int} {N : Int → Int} (h : PtsZ z s n N) {i : Int} (s0 : 0 ≤ s) (i0 : 0 ≤ i) (a b w : Int) : PtsZ (mup z (74 * s + 2 + 3 * i) a b w) s n (setN N i a b w) := fun j j0 j1 => by
  rw [mup_at (by omega) (by omega), setN_at]
  by_cases e0 : j = 3 * i
  · rw [if_pos e0, if_pos (by omega)]
  · by_cases e1 : j = 3 * i + 1
    · rw [if_neg e0, if_neg (by omega), if_pos e1, if_pos (by omega)]
    · by_cases e2 : j = 3 * i + 2
      · rw [if_neg e0, if_neg (by omega), if_neg e1, if_neg (by omega), if_pos e2, if_pos (by omega)]
      · rw [if_neg e0, if_neg (by omega), if_neg e1, if_neg (by omega), if_neg e2, if_neg (by omega)]
        exact h j j0 j1
theorem PtsZ.add {z : Nat → Int32} {s c : Int} {P : Int → Int} (h : PtsZ z s c P) (s0 : 0 ≤ s) (c0 : 0 ≤ c) (a b w : Int) : PtsZ (mup z (74 * s + 2 + 3 * c) a b w) s (c + 1) (setN P c a b w) := fun j j0 j1 => by
  rw [mup_at (by omega) (by omega), setN_at]
  by_cases e0 : j = 3 * c
  · rw [if_pos e0, if_pos (by omega)]
  · by_cases e1 : j = 3 * c + 1
    · rw [if_neg e0, if_neg (by omega), if_pos e1, if_pos (by omega)]
    · by_cases e2 : j = 3 * c + 2
      · rw [if_neg e0, if_neg (by omega), if_neg e1, if_neg (by omega), if_pos e2, if_pos (by omega)]
      · rw [if_neg e0, if_neg (by omega), if_neg e1, if_neg (by omega), if_neg e2, if_neg (by omega)]
        exact h j j0 (by omega)
-- a stroke more
theorem c_open {u : ShS} {sc : Int} (h2 : Sh_strokeCount u = iZ sc) (s0 : 0 ≤ sc) (s1 : sc < 4) : fX1_openStroke u = some (sc.toNat, Sh_s_strokeCount (Sh_s_st u sc.toNat (S_numbers (Sh_st u sc.toNat), iZ 0, iZ 0)) (iZ (sc + 1))) := by
  have e1 := c_at (u := u) s0 s1
  have e2 : fX3_removeAll (Sh_st u sc.toNat) = some (S_numbers (Sh_st u sc.toNat), iZ 0, iZ 0) := rfl
  have e3 : ∀ x : SS, Sh_strokeCount (Sh_s_st u sc.toNat x) = iZ sc := fun x => h2
  unfold fX1_openStroke
  simp (disch := omega) only [h2, e1, e2, e3, Mzz, Mzz2, Mtt, Mtz, Mtl, Mtx, Sum.elim_inl, Sum.elim_inr, bi_tr, bi_fa, Sh_same, Sh_ss, gd_true, gd_dec, lt_def, bind_s, isb_0, isb_1, iZ_add, iZ_sub, iZ_mul, iZ_neg, lZ_add, lZ_sub, lZ_mul, iZ_lt, iZ_le, iZ_eq, lZ_lt, lZ_le, lZ_eq, iZ_64, iZ_N, inb_Z, if_pos, if_neg, ↓reduceIte, Bool.true_eq_false, Bool.false_eq_true, li0, li1, li2, li3, li4, li5, li6, li9, li10, li16, li20, li23, li24, li25, li31, li33, li44, li48, li49, li50, li51, li57, li59, li60, li63, li69, li70, li71, li72, li74, li99, li100, li119, li126, li250, li296, li297, li298, li299, li300, li301, li302, li303, li606, li1515, li1818, li16384, li1048576, li2147483647, li10000, lj0, lj1, lj10000]
theorem r_begin {u : MS} {n sc : Int} (hz : M_z u (296 : Int).toNat = iZ sc) (s0 : 0 ≤ sc) (s1 : sc < 4) (n0 : 0 ≤ n) (n1 : n ≤ 24) : ∃ z : Nat → Int32, fX6_begin (iZ n) u = some (iZ sc, M_s_z u z) ∧ z (296 : Int).toNat = iZ (sc + 1) ∧ z (74 * sc).toNat = iZ n ∧ z (74 * sc + 1).toNat = allK n ∧ ∀ j : Int, 0 ≤ j → j ≠ 296 → j ≠ 74 * sc → j ≠ 74 * sc + 1 → z j.toNat = M_z u j.toNat := by
  have hk := r_keepAll (u := M_s_z u (upd (upd (M_z u) (296 : Int).toNat (iZ (sc + 1))) (74 * sc).toNat (iZ n))) (s := sc) (n := n) ⟨s0, s1⟩ upd_s
  refine ⟨upd (upd (upd (M_z u) (296 : Int).toNat (iZ (sc + 1))) (74 * sc).toNat (iZ n)) (74 * sc + 1).toNat (allK n), ?_, ?_, ?_, upd_s, fun j j0 a b c => ?_⟩
  · unfold fX6_begin
    simp (disch := omega) only [hz, hk, Mzz, Mzz2, Mtt, Mtz, Mtl, Mtx, Sum.elim_inl, Sum.elim_inr, bi_tr, bi_fa, Sh_same, Sh_ss, gd_true, gd_dec, lt_def, bind_s, isb_0, isb_1, iZ_add, iZ_sub, iZ_mul, iZ_neg, lZ_add, lZ_sub, lZ_mul, iZ_lt, iZ_le, iZ_eq, lZ_lt, lZ_le, lZ_eq, iZ_64, iZ_N, inb_Z, if_pos, if_neg, ↓reduceIte, Bool.true_eq_false, Bool.false_eq_true, li0, li1, li2, li3, li4, li5, li6, li9, li10, li16, li20, li23, li24, li25, li31, li33, li44, li48, li49, li50, li51, li57, li59, li60, li63, li69, li70, li71, li72, li74, li99, li100, li119, li126, li250, li296, li297, li298, li299, li300, li301, li302, li303, li606, li1515, li1818, li16384, li1048576, li2147483647, li10000, lj0, lj1, lj10000]
  · rw [upd_n (by omega), upd_n (by omega), upd_s]
  · rw [upd_n (by omega), upd_s]
  · rw [upd_n (by omega), upd_n (by omega), upd_n (by omega)]
section Q
variable {g : kG} {D : Nat → Nat → Nat} {R : kAd} {u : ShS} {ts : TS} {bs : SS} {ps : PS} {hs : HS} {ns : NS} {m : MS}
theorem g_stroke (G : GR u ts hs ns m) (p1 p2 p3 p4 : Int32) : ∃ (o : (Nat × ShS × HS) ⊕ (Int32 × ShS × HS)) (b : Int32) (m' : MS), fX5_stroke p1 p2 p3 p4 u hs = some o ∧ fX6_stroke p1 p2 p3 p4 m = some (b, m') ∧ Gst g [1, 2] D (obX5_stroke g D R u ts bs ps hs ns o) b m' := by
  obtain ⟨a1, rfl, A1⟩ := iZ_B p1
  obtain ⟨a2, rfl, A2⟩ := iZ_B p2
  obtain ⟨a3, rfl, A3⟩ := iZ_B p3
  obtain ⟨a4, rfl, A4⟩ := iZ_B p4
  obtain ⟨⟨sc, S⟩, -⟩ := id G
  have hsc := S.1
  have hz : M_z m (296 : Int).toNat = iZ sc := S.2.2.1
  by_cases h1 : inP a1 a2
  · have f1 := plcY A1 A2 h1
    have e1 := atY A1 A2 h1
    by_cases h2 : inP a3 a4
    · have f2 := plcY A3 A4 h2
      have e2 := atY A3 A4 h2
      by_cases h3 : sc < 4
      · have f3 := roomY S h3
        obtain ⟨hs', m2, s1, s2, s3, s4, -, -, -, s5⟩ := g_rec2 (G.th (iZ 0))
        have f4 := c_open S.2.1 hsc.1 h3
        have f5 := c_addP (m := S_numbers (Sh_st u sc.toNat)) (c := 0) (K := iZ 0) (a := a1) (b := a2) (w := 5) (by omega) (by omega)
        have f6 := c_addP (m := mup (S_numbers (Sh_st u sc.toNat)) (3 * 0) a1 a2 5) (c := 0 + 1) (K := allK (0 + 1)) (a := a3) (b := a4) (w := 5) (by omega) (by omega)
        have hz2 : M_z m2 (296 : Int).toNat = iZ sc := by rw [s3]; exact hz
        obtain ⟨zb, b1, b2, b3, b4, b5⟩ := r_begin (u := m2) (n := 2) hz2 hsc.1 h3 (by omega) (by omega)
        have q1 := r_put (u := M_s_z m2 zb) (s := sc) ⟨hsc.1, h3⟩ (k := 0) (x := a1) (y := a2) (w := 5) (by omega) (by omega)
        have q2 := r_put (u := M_s_z m2 (mup zb (74 * sc + 2 + 3 * 0) a1 a2 5)) (s := sc) ⟨hsc.1, h3⟩ (k := 1) (x := a3) (y := a4) (w := 5) (by omega) (by omega)
        have st1 : ∀ x : SS, Sh_st (Sh_s_strokeCount (Sh_s_st u sc.toNat x) (iZ (sc + 1))) sc.toNat = x := fun x => Sh_same u sc.toNat x
        have st2 : ∀ (x : SS), Sh_strokeCount (Sh_s_strokeCount (Sh_s_st u sc.toNat x) (iZ (sc + 1))) = iZ (sc + 1) := fun x => rfl
        have P0 : PtsZ zb sc 0 (fun _ => 0) := fun j j0 j1 => by omega
        have P1 := P0.add hsc.1 (Int.le_refl 0) a1 a2 5
        have P2 := P1.add hsc.1 (show (0 : Int) ≤ 0 + 1 by omega) a3 a4 5
        have C0 : Crd 0 (fun _ => 0) := fun k a b => by omega
        have C1 := C0.add h1.1 h1.2 (w := 5) (by omega)
        have C2 := C1.add h2.1 h2.2 (w := 5) (by omega)
        have R0 : Row (S_numbers (Sh_st u sc.toNat)) 0 (fun _ => 0) := fun j j0 j1 => by omega
        have R1 := R0.add (Int.le_refl 0) a1 a2 5
        have R2 := R1.add (show (0 : Int) ≤ 0 + 1 by omega) a3 a4 5
        have SX := S.push (z' := mup (mup zb (74 * sc + 2 + 3 * 0) a1 a2 5) (74 * sc + 2 + 3 * (0 + 1)) a3 a4 5) (x := (mup (mup (S_numbers (Sh_st u sc.toNat)) (3 * 0) a1 a2 5) (3 * (0 + 1)) a3 a4 5, iZ 2, allK 2)) h3 (by rw [mup_o (by omega) (by omega) (by omega), mup_o (by omega) (by omega) (by omega)]; exact b2) (fun j j0 j1 j2 => by
          rw [mup_o (by omega) (by omega) (by omega), mup_o (by omega) (by omega) (by omega), b5 j j0 j1 (by omega) (by omega), s3]) ⟨2, _, allK 2, _, rfl, R2, MK_all (by omega), C2, by rw [mup_o (by omega) (by omega) (by omega), mup_o (by omega) (by omega) (by omega)]; exact b3, by rw [mup_o (by omega) (by omega) (by omega), mup_o (by omega) (by omega) (by omega)]; exact b4, P2⟩
        refine ⟨.inr (iZ sc, Sh_s_strokeCount (Sh_s_st u sc.toNat (mup (mup (S_numbers (Sh_st u sc.toNat)) (3 * 0) a1 a2 5) (3 * (0 + 1)) a3 a4 5, iZ 2, allK 2)) (iZ (sc + 1)), hs'), iZ sc, M_s_z m2 (mup (mup zb (74 * sc + 2 + 3 * 0) a1 a2 5) (74 * sc + 2 + 3 * (0 + 1)) a3 a4 5), ?_, ?_, Gst.r (show M_thrown m2 = iZ 0 from s4) (fun _ => WB.mk (s5 _ _ _ SX))⟩
        · have e9 : sc + 1 - 1 = sc := by omega
          unfold fX5_stroke
          simp (disch := omega) only [f1, f2, f3, s1, f4, st1, f5, Sh_cs, f6, st2, fX1_strokeCount, e9, Mzz, Mzz2, Mtt, Mtz, Mtl, Mtx, Sum.elim_inl, Sum.elim_inr, bi_tr, bi_fa, Sh_same, Sh_ss, gd_true, gd_dec, lt_def, bind_s, isb_0, isb_1, iZ_add, iZ_sub, iZ_mul, iZ_neg, lZ_add, lZ_sub, lZ_mul, iZ_lt, iZ_le, iZ_eq, lZ_lt, lZ_le, lZ_eq, iZ_64, iZ_N, inb_Z, if_pos, if_neg, ↓reduceIte, Bool.true_eq_false, Bool.false_eq_true, li0, li1, li2, li3, li4, li5, li6, li9, li10, li16, li20, li23, li24, li25, li31, li33, li44, li48, li49, li50, li51, li57, li59, li60, li63, li69, li70, li71, li72, li74, li99, li100, li119, li126, li250, li296, li297, li298, li299, li300, li301, li302, li303, li606, li1515, li1818, li16384, li1048576, li2147483647, li10000, lj0, lj1, lj10000] <;> rfl
        · unfold fX6_stroke
          simp (disch := omega) only [e1, e2, hz, s2, b1, q1, q2, Mzz, Mzz2, Mtt, Mtz, Mtl, Mtx, Sum.elim_inl, Sum.elim_inr, bi_tr, bi_fa, Sh_same, Sh_ss, gd_true, gd_dec, lt_def, bind_s, isb_0, isb_1, iZ_add, iZ_sub, iZ_mul, iZ_neg, lZ_add, lZ_sub, lZ_mul, iZ_lt, iZ_le, iZ_eq, lZ_lt, lZ_le, lZ_eq, iZ_64, iZ_N, inb_Z, if_pos, if_neg, ↓reduceIte, Bool.true_eq_false, Bool.false_eq_true, li0, li1, li2, li3, li4, li5, li6, li9, li10, li16, li20, li23, li24, li25, li31, li33, li44, li48, li49, li50, li51, li57, li59, li60, li63, li69, li70, li71, li72, li74, li99, li100, li119, li126, li250, li296, li297, li298, li299, li300, li301, li302, li303, li606, li1515, li1818, li16384, li1048576, li2147483647, li10000, lj0, lj1, lj10000] <;> rfl
      · have f3 := roomN S h3
        have : sc = 4 := by omega
        subst this
        refine ⟨.inl (2, u, hs), iZ 0, M_s_thrown m (iZ 2), ?_, ?_, Gst.l 1 rfl rfl (fun _ => WB.mk G)⟩
        · unfold fX5_stroke
          simp (disch := omega) only [f1, f2, f3, Mzz, Mzz2, Mtt, Mtz, Mtl, Mtx, Sum.elim_inl, Sum.elim_inr, bi_tr, bi_fa, Sh_same, Sh_ss, gd_true, gd_dec, lt_def, bind_s, isb_0, isb_1, iZ_add, iZ_sub, iZ_mul, iZ_neg, lZ_add, lZ_sub, lZ_mul, iZ_lt, iZ_le, iZ_eq, lZ_lt, lZ_le, lZ_eq, iZ_64, iZ_N, inb_Z, if_pos, if_neg, ↓reduceIte, Bool.true_eq_false, Bool.false_eq_true, li0, li1, li2, li3, li4, li5, li6, li9, li10, li16, li20, li23, li24, li25, li31, li33, li44, li48, li49, li50, li51, li57, li59, li60, li63, li69, li70, li71, li72, li74, li99, li100, li119, li126, li250, li296, li297, li298, li299, li300, li301, li302, li303, li606, li1515, li1818, li16384, li1048576, li2147483647, li10000, lj0, lj1, lj10000]
        · unfold fX6_stroke
          simp (disch := omega) only [e1, e2, hz, Mzz, Mzz2, Mtt, Mtz, Mtl, Mtx, Sum.elim_inl, Sum.elim_inr, bi_tr, bi_fa, Sh_same, Sh_ss, gd_true, gd_dec, lt_def, bind_s, isb_0, isb_1, iZ_add, iZ_sub, iZ_mul, iZ_neg, lZ_add, lZ_sub, lZ_mul, iZ_lt, iZ_le, iZ_eq, lZ_lt, lZ_le, lZ_eq, iZ_64, iZ_N, inb_Z, if_pos, if_neg, ↓reduceIte, Bool.true_eq_false, Bool.false_eq_true, li0, li1, li2, li3, li4, li5, li6, li9, li10, li16, li20, li23, li24, li25, li31, li33, li44, li48, li49, li50, li51, li57, li59, li60, li63, li69, li70, li71, li72, li74, li99, li100, li119, li126, li250, li296, li297, li298, li299, li300, li301, li302, li303, li606, li1515, li1818, li16384, li1048576, li2147483647, li10000, lj0, lj1, lj10000]
    · have f2 := plcN A3 A4 h2
      have e2 := atN A3 A4 h2
      refine ⟨.inl (1, u, hs), iZ 0, M_s_thrown m (iZ 1), ?_, ?_, Gst.l 0 rfl rfl (fun _ => WB.mk G)⟩
      · unfold fX5_stroke
        simp (disch := omega) only [f1, f2, Mzz, Mzz2, Mtt, Mtz, Mtl, Mtx, Sum.elim_inl, Sum.elim_inr, bi_tr, bi_fa, Sh_same, Sh_ss, gd_true, gd_dec, lt_def, bind_s, isb_0, isb_1, iZ_add, iZ_sub, iZ_mul, iZ_neg, lZ_add, lZ_sub, lZ_mul, iZ_lt, iZ_le, iZ_eq, lZ_lt, lZ_le, lZ_eq, iZ_64, iZ_N, inb_Z, if_pos, if_neg, ↓reduceIte, Bool.true_eq_false, Bool.false_eq_true, li0, li1, li2, li3, li4, li5, li6, li9, li10, li16, li20, li23, li24, li25, li31, li33, li44, li48, li49, li50, li51, li57, li59, li60, li63, li69, li70, li71, li72, li74, li99, li100, li119, li126, li250, li296, li297, li298, li299, li300, li301, li302, li303, li606, li1515, li1818, li16384, li1048576, li2147483647, li10000, lj0, lj1, lj10000]
      · unfold fX6_stroke
        simp (disch := omega) only [e1, e2, Mzz, Mzz2, Mtt, Mtz, Mtl, Mtx, Sum.elim_inl, Sum.elim_inr, bi_tr, bi_fa, Sh_same, Sh_ss, gd_true, gd_dec, lt_def, bind_s, isb_0, isb_1, iZ_add, iZ_sub, iZ_mul, iZ_neg, lZ_add, lZ_sub, lZ_mul, iZ_lt, iZ_le, iZ_eq, lZ_lt, lZ_le, lZ_eq, iZ_64, iZ_N, inb_Z, if_pos, if_neg, ↓reduceIte, Bool.true_eq_false, Bool.false_eq_true, li0, li1, li2, li3, li4, li5, li6, li9, li10, li16, li20, li23, li24, li25, li31, li33, li44, li48, li49, li50, li51, li57, li59, li60, li63, li69, li70, li71, li72, li74, li99, li100, li119, li126, li250, li296, li297, li298, li299, li300, li301, li302, li303, li606, li1515, li1818, li16384, li1048576, li2147483647, li10000, lj0, lj1, lj10000]
  · have f1 := plcN A1 A2 h1
    have e1 := atN A1 A2 h1
    refine ⟨.inl (1, u, hs), iZ 0, M_s_thrown m (iZ 1), ?_, ?_, Gst.l 0 rfl rfl (fun _ => WB.mk G)⟩
    · unfold fX5_stroke
      simp (disch := omega) only [f1, Mzz, Mzz2, Mtt, Mtz, Mtl, Mtx, Sum.elim_inl, Sum.elim_inr, bi_tr, bi_fa, Sh_same, Sh_ss, gd_true, gd_dec, lt_def, bind_s, isb_0, isb_1, iZ_add, iZ_sub, iZ_mul, iZ_neg, lZ_add, lZ_sub, lZ_mul, iZ_lt, iZ_le, iZ_eq, lZ_lt, lZ_le, lZ_eq, iZ_64, iZ_N, inb_Z, if_pos, if_neg, ↓reduceIte, Bool.true_eq_false, Bool.false_eq_true, li0, li1, li2, li3, li4, li5, li6, li9, li10, li16, li20, li23, li24, li25, li31, li33, li44, li48, li49, li50, li51, li57, li59, li60, li63, li69, li70, li71, li72, li74, li99, li100, li119, li126, li250, li296, li297, li298, li299, li300, li301, li302, li303, li606, li1515, li1818, li16384, li1048576, li2147483647, li10000, lj0, lj1, lj10000]
    · unfold fX6_stroke
      simp (disch := omega) only [e1, Mzz, Mzz2, Mtt, Mtz, Mtl, Mtx, Sum.elim_inl, Sum.elim_inr, bi_tr, bi_fa, Sh_same, Sh_ss, gd_true, gd_dec, lt_def, bind_s, isb_0, isb_1, iZ_add, iZ_sub, iZ_mul, iZ_neg, lZ_add, lZ_sub, lZ_mul, iZ_lt, iZ_le, iZ_eq, lZ_lt, lZ_le, lZ_eq, iZ_64, iZ_N, inb_Z, if_pos, if_neg, ↓reduceIte, Bool.true_eq_false, Bool.false_eq_true, li0, li1, li2, li3, li4, li5, li6, li9, li10, li16, li20, li23, li24, li25, li31, li33, li44, li48, li49, li50, li51, li57, li59, li60, li63, li69, li70, li71, li72, li74, li99, li100, li119, li126, li250, li296, li297, li298, li299, li300, li301, li302, li303, li606, li1515, li1818, li16384, li1048576, li2147483647, li10000, lj0, lj1, lj10000]
end Q
end
