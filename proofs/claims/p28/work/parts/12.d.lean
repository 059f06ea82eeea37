/-! p28: what the class tells of a stroke; isSo -/
def PS1 (u : ShS) (n : Int) (N : Int → Int) (K : Int32) (v : Int → Int) : Prop := (Sh_strokeCount u = iZ 1 ∧ MK n K ∧ Crd n N) ∧ (∃ m : Nat → Int32, Sh_st u 0 = (m, iZ n, K) ∧ Row m n N) ∧ ∀ i : Int, 0 ≤ i → i < 4 → Sh_values u i.toNat = iZ (v i) ∧ vlo i ≤ v i ∧ v i ≤ vhi i
section LD
variable {u : ShS} {f : Nat → Int32} {n : Int} {N : Int → Int} {K : Int32} {v : Int → Int}
theorem q_val (P : PS1 u n N K v) {i : Int} (i0 : 0 ≤ i) (i1 : i < 4) : fX1_value (iZ i) u = some (iZ (v i)) := by
  have h := (P.2.2 i i0 i1).1
  unfold fX1_value
  simp (disch := omega) only [c_cell, h, gd_true, gd_dec, lt_def, bind_s, isb_0, isb_1, iZ_add, iZ_sub, iZ_mul, iZ_neg, lZ_add, lZ_sub, lZ_mul, iZ_lt, iZ_le, iZ_eq, lZ_lt, lZ_le, lZ_eq, iZ_64, iZ_N, inb_Z, if_pos, if_neg, ↓reduceIte, Bool.true_eq_false, Bool.false_eq_true, li7, li8, li12, li14, li34, li35, li36, li40, li101, li0, li1, li2, li3, li4, li5, li6, li9, li10, li16, li20, li23, li24, li25, li31, li33, li44, li48, li49, li50, li51, li57, li59, li60, li63, li69, li70, li71, li72, li74, li99, li100, li119, li126, li250, li296, li297, li298, li299, li300, li301, li302, li303, li606, li1515, li1818, li16384, li1048576, li2147483647, li10000, lj0, lj1, lj10000]
theorem q_v (P : PS1 u n N K v) : (0 ≤ v 0 ∧ v 0 ≤ 50) ∧ (0 ≤ v 1 ∧ v 1 ≤ 100) ∧ (1 ≤ v 2 ∧ v 2 ≤ 20) ∧ 0 ≤ v 3 ∧ v 3 ≤ 100 := by
  have h0 := (P.2.2 0 (by omega) (by omega)).2
  have h1 := (P.2.2 1 (by omega) (by omega)).2
  have h2 := (P.2.2 2 (by omega) (by omega)).2
  have h3 := (P.2.2 3 (by omega) (by omega)).2
  exact ⟨h0, h1, h2, h3⟩
theorem q_set (P : PS1 u n N K v) {i : Int} (i0 : 0 ≤ i) (i1 : i < 4) : fX5_setting (iZ i) u = some (iZ (v i)) := by
  unfold fX5_setting fX5_requireSettingN
  simp (disch := omega) only [q_val P i0 i1, gd_true, gd_dec, lt_def, bind_s, isb_0, isb_1, iZ_add, iZ_sub, iZ_mul, iZ_neg, lZ_add, lZ_sub, lZ_mul, iZ_lt, iZ_le, iZ_eq, lZ_lt, lZ_le, lZ_eq, iZ_64, iZ_N, inb_Z, if_pos, if_neg, ↓reduceIte, Bool.true_eq_false, Bool.false_eq_true, li7, li8, li12, li14, li34, li35, li36, li40, li101, li0, li1, li2, li3, li4, li5, li6, li9, li10, li16, li20, li23, li24, li25, li31, li33, li44, li48, li49, li50, li51, li57, li59, li60, li63, li69, li70, li71, li72, li74, li99, li100, li119, li126, li250, li296, li297, li298, li299, li300, li301, li302, li303, li606, li1515, li1818, li16384, li1048576, li2147483647, li10000, lj0, lj1, lj10000]
theorem q_ex (P : PS1 u n N K v) : fX5_existingStrokeN (iZ 0) u = some 0 := by
  have h := P.1.1
  have e : fX1_strokeCount u = some (iZ 1) := by unfold fX1_strokeCount; rw [h]
  have e2 := c_at (u := u) (k := 0) (by omega) (by omega)
  unfold fX5_existingStrokeN fX5_requireStrokeN
  simp (disch := omega) only [e, e2, gd_true, gd_dec, lt_def, bind_s, isb_0, isb_1, iZ_add, iZ_sub, iZ_mul, iZ_neg, lZ_add, lZ_sub, lZ_mul, iZ_lt, iZ_le, iZ_eq, lZ_lt, lZ_le, lZ_eq, iZ_64, iZ_N, inb_Z, if_pos, if_neg, ↓reduceIte, Bool.true_eq_false, Bool.false_eq_true, li7, li8, li12, li14, li34, li35, li36, li40, li101, li0, li1, li2, li3, li4, li5, li6, li9, li10, li16, li20, li23, li24, li25, li31, li33, li44, li48, li49, li50, li51, li57, li59, li60, li63, li69, li70, li71, li72, li74, li99, li100, li119, li126, li250, li296, li297, li298, li299, li300, li301, li302, li303, li606, li1515, li1818, li16384, li1048576, li2147483647, li10000, lj0, lj1, lj10000]
  rfl
theorem q_pt {m : Nat → Int32} (hn : n ≤ 24) {k : Int} (k0 : 0 ≤ k) (k1 : k < n) : fX5_requirePointN (iZ k) (m, iZ n, K) = some () := by
  unfold fX5_requirePointN fX3_size S_size
  simp (disch := omega) only [gd_true, gd_dec, lt_def, bind_s, isb_0, isb_1, iZ_add, iZ_sub, iZ_mul, iZ_neg, lZ_add, lZ_sub, lZ_mul, iZ_lt, iZ_le, iZ_eq, lZ_lt, lZ_le, lZ_eq, iZ_64, iZ_N, inb_Z, if_pos, if_neg, ↓reduceIte, Bool.true_eq_false, Bool.false_eq_true, li7, li8, li12, li14, li34, li35, li36, li40, li101, li0, li1, li2, li3, li4, li5, li6, li9, li10, li16, li20, li23, li24, li25, li31, li33, li44, li48, li49, li50, li51, li57, li59, li60, li63, li69, li70, li71, li72, li74, li99, li100, li119, li126, li250, li296, li297, li298, li299, li300, li301, li302, li303, li606, li1515, li1818, li16384, li1048576, li2147483647, li10000, lj0, lj1, lj10000]
theorem d05 : decide ((0 : Nat) < 5) = true := by decide
theorem q_point (P : PS1 u n N K v) {k : Int} (k0 : 0 ≤ k) (k1 : k < n) : fX5_point (iZ 0) (iZ k) (iZ 0) u = some (iZ (N (3 * k))) ∧ fX5_point (iZ 0) (iZ k) (iZ 1) u = some (iZ (N (3 * k + 1))) ∧ fX5_point (iZ 0) (iZ k) (iZ 2) u = some (iZ (N (3 * k + 2))) ∧ fX5_point (iZ 0) (iZ k) (iZ 3) u = some (iZ (bi (hb K k))) ∧ fX5_point (iZ 0) (iZ k) (iZ 4) u = some (iZ (kdD N n (v 1) (v 2) k)) ∧ fX5_point (iZ 0) (iZ k) (iZ 5) u = some (iZ (strD N K k)) := by
  obtain ⟨-, hv1, hv2, -⟩ := q_v P
  obtain ⟨⟨-, M, hc⟩, ⟨m, hst, hm⟩, -⟩ := id P
  have hn := M.1.2
  have e1 := q_ex P
  have e2 := q_pt (m := m) (K := K) hn k0 k1
  have x1 := c_x (s := iZ n) (K := K) hm hn k0 k1
  have x2 := c_y (s := iZ n) (K := K) hm hn k0 k1
  have x3 := c_w (s := iZ n) (K := K) hm hn k0 k1
  have x4 := c_kept (m := m) (s := iZ n) (K := K) k0 (show k < 24 by omega)
  have x5 := c_kind (K := K) hm hc hn k0 k1 hv1.1 hv1.2 (show 0 ≤ v 2 by omega) (show v 2 ≤ 100 by omega)
  have x6 := c_stray hm hc M k0 k1
  refine ⟨?_, ?_, ?_, ?_, ?_, ?_⟩
  · unfold fX5_point
    simp (disch := omega) only [e1, d05, hst, e2, x1, gd_true, gd_dec, lt_def, bind_s, isb_0, isb_1, iZ_add, iZ_sub, iZ_mul, iZ_neg, lZ_add, lZ_sub, lZ_mul, iZ_lt, iZ_le, iZ_eq, lZ_lt, lZ_le, lZ_eq, iZ_64, iZ_N, inb_Z, if_pos, if_neg, ↓reduceIte, Bool.true_eq_false, Bool.false_eq_true, li7, li8, li12, li14, li34, li35, li36, li40, li101, li0, li1, li2, li3, li4, li5, li6, li9, li10, li16, li20, li23, li24, li25, li31, li33, li44, li48, li49, li50, li51, li57, li59, li60, li63, li69, li70, li71, li72, li74, li99, li100, li119, li126, li250, li296, li297, li298, li299, li300, li301, li302, li303, li606, li1515, li1818, li16384, li1048576, li2147483647, li10000, lj0, lj1, lj10000]
  · unfold fX5_point
    simp (disch := omega) only [e1, d05, hst, e2, x2, gd_true, gd_dec, lt_def, bind_s, isb_0, isb_1, iZ_add, iZ_sub, iZ_mul, iZ_neg, lZ_add, lZ_sub, lZ_mul, iZ_lt, iZ_le, iZ_eq, lZ_lt, lZ_le, lZ_eq, iZ_64, iZ_N, inb_Z, if_pos, if_neg, ↓reduceIte, Bool.true_eq_false, Bool.false_eq_true, li7, li8, li12, li14, li34, li35, li36, li40, li101, li0, li1, li2, li3, li4, li5, li6, li9, li10, li16, li20, li23, li24, li25, li31, li33, li44, li48, li49, li50, li51, li57, li59, li60, li63, li69, li70, li71, li72, li74, li99, li100, li119, li126, li250, li296, li297, li298, li299, li300, li301, li302, li303, li606, li1515, li1818, li16384, li1048576, li2147483647, li10000, lj0, lj1, lj10000]
  · unfold fX5_point
    simp (disch := omega) only [e1, d05, hst, e2, x3, gd_true, gd_dec, lt_def, bind_s, isb_0, isb_1, iZ_add, iZ_sub, iZ_mul, iZ_neg, lZ_add, lZ_sub, lZ_mul, iZ_lt, iZ_le, iZ_eq, lZ_lt, lZ_le, lZ_eq, iZ_64, iZ_N, inb_Z, if_pos, if_neg, ↓reduceIte, Bool.true_eq_false, Bool.false_eq_true, li7, li8, li12, li14, li34, li35, li36, li40, li101, li0, li1, li2, li3, li4, li5, li6, li9, li10, li16, li20, li23, li24, li25, li31, li33, li44, li48, li49, li50, li51, li57, li59, li60, li63, li69, li70, li71, li72, li74, li99, li100, li119, li126, li250, li296, li297, li298, li299, li300, li301, li302, li303, li606, li1515, li1818, li16384, li1048576, li2147483647, li10000, lj0, lj1, lj10000]
  · unfold fX5_point
    cases hk : hb K k with
    | true =>
      rw [hk, bi_tr] at x4
      rw [bi_tr]
      simp (disch := omega) only [e1, d05, hst, e2, x4, gd_true, gd_dec, lt_def, bind_s, isb_0, isb_1, iZ_add, iZ_sub, iZ_mul, iZ_neg, lZ_add, lZ_sub, lZ_mul, iZ_lt, iZ_le, iZ_eq, lZ_lt, lZ_le, lZ_eq, iZ_64, iZ_N, inb_Z, if_pos, if_neg, ↓reduceIte, Bool.true_eq_false, Bool.false_eq_true, li7, li8, li12, li14, li34, li35, li36, li40, li101, li0, li1, li2, li3, li4, li5, li6, li9, li10, li16, li20, li23, li24, li25, li31, li33, li44, li48, li49, li50, li51, li57, li59, li60, li63, li69, li70, li71, li72, li74, li99, li100, li119, li126, li250, li296, li297, li298, li299, li300, li301, li302, li303, li606, li1515, li1818, li16384, li1048576, li2147483647, li10000, lj0, lj1, lj10000]
    | false =>
      rw [hk, bi_fa] at x4
      rw [bi_fa]
      simp (disch := omega) only [e1, d05, hst, e2, x4, gd_true, gd_dec, lt_def, bind_s, isb_0, isb_1, iZ_add, iZ_sub, iZ_mul, iZ_neg, lZ_add, lZ_sub, lZ_mul, iZ_lt, iZ_le, iZ_eq, lZ_lt, lZ_le, lZ_eq, iZ_64, iZ_N, inb_Z, if_pos, if_neg, ↓reduceIte, Bool.true_eq_false, Bool.false_eq_true, li7, li8, li12, li14, li34, li35, li36, li40, li101, li0, li1, li2, li3, li4, li5, li6, li9, li10, li16, li20, li23, li24, li25, li31, li33, li44, li48, li49, li50, li51, li57, li59, li60, li63, li69, li70, li71, li72, li74, li99, li100, li119, li126, li250, li296, li297, li298, li299, li300, li301, li302, li303, li606, li1515, li1818, li16384, li1048576, li2147483647, li10000, lj0, lj1, lj10000]
  · unfold fX5_point
    simp (disch := omega) only [e1, d05, hst, e2, x5, q_val P, gd_true, gd_dec, lt_def, bind_s, isb_0, isb_1, iZ_add, iZ_sub, iZ_mul, iZ_neg, lZ_add, lZ_sub, lZ_mul, iZ_lt, iZ_le, iZ_eq, lZ_lt, lZ_le, lZ_eq, iZ_64, iZ_N, inb_Z, if_pos, if_neg, ↓reduceIte, Bool.true_eq_false, Bool.false_eq_true, li7, li8, li12, li14, li34, li35, li36, li40, li101, li0, li1, li2, li3, li4, li5, li6, li9, li10, li16, li20, li23, li24, li25, li31, li33, li44, li48, li49, li50, li51, li57, li59, li60, li63, li69, li70, li71, li72, li74, li99, li100, li119, li126, li250, li296, li297, li298, li299, li300, li301, li302, li303, li606, li1515, li1818, li16384, li1048576, li2147483647, li10000, lj0, lj1, lj10000]
  · unfold fX5_point
    simp (disch := omega) only [e1, d05, hst, e2, x6, gd_true, gd_dec, lt_def, bind_s, isb_0, isb_1, iZ_add, iZ_sub, iZ_mul, iZ_neg, lZ_add, lZ_sub, lZ_mul, iZ_lt, iZ_le, iZ_eq, lZ_lt, lZ_le, lZ_eq, iZ_64, iZ_N, inb_Z, if_pos, if_neg, ↓reduceIte, Bool.true_eq_false, Bool.false_eq_true, li7, li8, li12, li14, li34, li35, li36, li40, li101, li0, li1, li2, li3, li4, li5, li6, li9, li10, li16, li20, li23, li24, li25, li31, li33, li44, li48, li49, li50, li51, li57, li59, li60, li63, li69, li70, li71, li72, li74, li99, li100, li119, li126, li250, li296, li297, li298, li299, li300, li301, li302, li303, li606, li1515, li1818, li16384, li1048576, li2147483647, li10000, lj0, lj1, lj10000]
theorem q_of (P : PS1 u n N K v) : fX5_strokeOf (iZ 0) (iZ 0) u = some (iZ n) ∧ fX5_strokeOf (iZ 0) (iZ 1) u = some (iZ (cK K 24)) ∧ fX5_strokeOf (iZ 0) (iZ 2) u = some (iZ (su (bitP (kdD N n (v 1) (v 2)) 2) 0 n)) ∧ fX5_strokeOf (iZ 0) (iZ 3) u = some (iZ (su (bitP (kdD N n (v 1) (v 2)) 4) 0 n)) ∧ fX5_strokeOf (iZ 0) (iZ 4) u = some (iZ (su (lnF N K) 1 n)) ∧ fX5_strokeOf (iZ 0) (iZ 9) u = some (iZ (su (jnF N K (v 3)) 1 (n - 1))) ∧ fX5_strokeOf (iZ 0) (iZ 10) u = some K ∧ fX5_crossings (iZ 0) u = some (iZ (su (csF N K n) 1 n)) ∧ ∃ g p : Int, IsGs (strD N K) n g p ∧ fX5_strokeOf (iZ 0) (iZ 5) u = some (iZ g) ∧ fX5_strokeOf (iZ 0) (iZ 6) u = some (iZ p) := by
  obtain ⟨-, hv1, hv2, hv3⟩ := q_v P
  obtain ⟨⟨-, M, hc⟩, ⟨m, hst, hm⟩, -⟩ := id P
  have hn := M.1
  have e1 := q_ex P
  have x1 := c_countKind (us := u) (i := 0) 2 (by decide) hst (q_val P (by omega) (by omega)) (q_val P (by omega) (by omega)) hm hc (by omega) hv1.1 hv1.2 (show 0 ≤ v 2 by omega) (show v 2 ≤ 100 by omega)
  have x2 := c_countKind (us := u) (i := 0) 4 (by decide) hst (q_val P (by omega) (by omega)) (q_val P (by omega) (by omega)) hm hc (by omega) hv1.1 hv1.2 (show 0 ≤ v 2 by omega) (show v 2 ≤ 100 by omega)
  have x3 := c_length hm hc M
  have x4 := c_joins hm hc M hv3.1 hv3.2
  have x5 := c_crossings hm hc M
  obtain ⟨g, p, hg, x6⟩ := c_gs hm hc M
  have x7 := c_stray hm hc M hg.1.1 hg.1.2
  rw [hg.2.1] at x7
  have x8 : fX3_keptCount (m, iZ n, K) = some (iZ (cK K 24)) := by
    unfold fX3_keptCount S_kept
    rw [M.ones.1, bind_s]
    rfl
  have x9 : fX3_size (m, iZ n, K) = some (iZ n) := rfl
  have x10 : fX3_kept (m, iZ n, K) = some K := rfl
  refine ⟨?_, ?_, ?_, ?_, ?_, ?_, ?_, ?_, g, p, hg, ?_, ?_⟩
  · unfold fX5_strokeOf
    simp (disch := omega) only [e1, d05, hst, x9, gd_true, gd_dec, lt_def, bind_s, isb_0, isb_1, iZ_add, iZ_sub, iZ_mul, iZ_neg, lZ_add, lZ_sub, lZ_mul, iZ_lt, iZ_le, iZ_eq, lZ_lt, lZ_le, lZ_eq, iZ_64, iZ_N, inb_Z, if_pos, if_neg, ↓reduceIte, Bool.true_eq_false, Bool.false_eq_true, li7, li8, li12, li14, li34, li35, li36, li40, li101, li0, li1, li2, li3, li4, li5, li6, li9, li10, li16, li20, li23, li24, li25, li31, li33, li44, li48, li49, li50, li51, li57, li59, li60, li63, li69, li70, li71, li72, li74, li99, li100, li119, li126, li250, li296, li297, li298, li299, li300, li301, li302, li303, li606, li1515, li1818, li16384, li1048576, li2147483647, li10000, lj0, lj1, lj10000]
  · unfold fX5_strokeOf
    simp (disch := omega) only [e1, d05, hst, x8, gd_true, gd_dec, lt_def, bind_s, isb_0, isb_1, iZ_add, iZ_sub, iZ_mul, iZ_neg, lZ_add, lZ_sub, lZ_mul, iZ_lt, iZ_le, iZ_eq, lZ_lt, lZ_le, lZ_eq, iZ_64, iZ_N, inb_Z, if_pos, if_neg, ↓reduceIte, Bool.true_eq_false, Bool.false_eq_true, li7, li8, li12, li14, li34, li35, li36, li40, li101, li0, li1, li2, li3, li4, li5, li6, li9, li10, li16, li20, li23, li24, li25, li31, li33, li44, li48, li49, li50, li51, li57, li59, li60, li63, li69, li70, li71, li72, li74, li99, li100, li119, li126, li250, li296, li297, li298, li299, li300, li301, li302, li303, li606, li1515, li1818, li16384, li1048576, li2147483647, li10000, lj0, lj1, lj10000]
  · unfold fX5_strokeOf
    simp (disch := omega) only [e1, x1, gd_true, gd_dec, lt_def, bind_s, isb_0, isb_1, iZ_add, iZ_sub, iZ_mul, iZ_neg, lZ_add, lZ_sub, lZ_mul, iZ_lt, iZ_le, iZ_eq, lZ_lt, lZ_le, lZ_eq, iZ_64, iZ_N, inb_Z, if_pos, if_neg, ↓reduceIte, Bool.true_eq_false, Bool.false_eq_true, li7, li8, li12, li14, li34, li35, li36, li40, li101, li0, li1, li2, li3, li4, li5, li6, li9, li10, li16, li20, li23, li24, li25, li31, li33, li44, li48, li49, li50, li51, li57, li59, li60, li63, li69, li70, li71, li72, li74, li99, li100, li119, li126, li250, li296, li297, li298, li299, li300, li301, li302, li303, li606, li1515, li1818, li16384, li1048576, li2147483647, li10000, lj0, lj1, lj10000]
  · unfold fX5_strokeOf
    simp (disch := omega) only [e1, x2, gd_true, gd_dec, lt_def, bind_s, isb_0, isb_1, iZ_add, iZ_sub, iZ_mul, iZ_neg, lZ_add, lZ_sub, lZ_mul, iZ_lt, iZ_le, iZ_eq, lZ_lt, lZ_le, lZ_eq, iZ_64, iZ_N, inb_Z, if_pos, if_neg, ↓reduceIte, Bool.true_eq_false, Bool.false_eq_true, li7, li8, li12, li14, li34, li35, li36, li40, li101, li0, li1, li2, li3, li4, li5, li6, li9, li10, li16, li20, li23, li24, li25, li31, li33, li44, li48, li49, li50, li51, li57, li59, li60, li63, li69, li70, li71, li72, li74, li99, li100, li119, li126, li250, li296, li297, li298, li299, li300, li301, li302, li303, li606, li1515, li1818, li16384, li1048576, li2147483647, li10000, lj0, lj1, lj10000]
  · unfold fX5_strokeOf
    simp (disch := omega) only [e1, d05, hst, x3, gd_true, gd_dec, lt_def, bind_s, isb_0, isb_1, iZ_add, iZ_sub, iZ_mul, iZ_neg, lZ_add, lZ_sub, lZ_mul, iZ_lt, iZ_le, iZ_eq, lZ_lt, lZ_le, lZ_eq, iZ_64, iZ_N, inb_Z, if_pos, if_neg, ↓reduceIte, Bool.true_eq_false, Bool.false_eq_true, li7, li8, li12, li14, li34, li35, li36, li40, li101, li0, li1, li2, li3, li4, li5, li6, li9, li10, li16, li20, li23, li24, li25, li31, li33, li44, li48, li49, li50, li51, li57, li59, li60, li63, li69, li70, li71, li72, li74, li99, li100, li119, li126, li250, li296, li297, li298, li299, li300, li301, li302, li303, li606, li1515, li1818, li16384, li1048576, li2147483647, li10000, lj0, lj1, lj10000]
  · unfold fX5_strokeOf
    simp (disch := omega) only [e1, d05, hst, x4, q_val P, gd_true, gd_dec, lt_def, bind_s, isb_0, isb_1, iZ_add, iZ_sub, iZ_mul, iZ_neg, lZ_add, lZ_sub, lZ_mul, iZ_lt, iZ_le, iZ_eq, lZ_lt, lZ_le, lZ_eq, iZ_64, iZ_N, inb_Z, if_pos, if_neg, ↓reduceIte, Bool.true_eq_false, Bool.false_eq_true, li7, li8, li12, li14, li34, li35, li36, li40, li101, li0, li1, li2, li3, li4, li5, li6, li9, li10, li16, li20, li23, li24, li25, li31, li33, li44, li48, li49, li50, li51, li57, li59, li60, li63, li69, li70, li71, li72, li74, li99, li100, li119, li126, li250, li296, li297, li298, li299, li300, li301, li302, li303, li606, li1515, li1818, li16384, li1048576, li2147483647, li10000, lj0, lj1, lj10000]
  · unfold fX5_strokeOf
    simp (disch := omega) only [e1, d05, hst, x10, gd_true, gd_dec, lt_def, bind_s, isb_0, isb_1, iZ_add, iZ_sub, iZ_mul, iZ_neg, lZ_add, lZ_sub, lZ_mul, iZ_lt, iZ_le, iZ_eq, lZ_lt, lZ_le, lZ_eq, iZ_64, iZ_N, inb_Z, if_pos, if_neg, ↓reduceIte, Bool.true_eq_false, Bool.false_eq_true, li7, li8, li12, li14, li34, li35, li36, li40, li101, li0, li1, li2, li3, li4, li5, li6, li9, li10, li16, li20, li23, li24, li25, li31, li33, li44, li48, li49, li50, li51, li57, li59, li60, li63, li69, li70, li71, li72, li74, li99, li100, li119, li126, li250, li296, li297, li298, li299, li300, li301, li302, li303, li606, li1515, li1818, li16384, li1048576, li2147483647, li10000, lj0, lj1, lj10000]
  · unfold fX5_crossings
    simp (disch := omega) only [e1, d05, hst, x5, gd_true, gd_dec, lt_def, bind_s, isb_0, isb_1, iZ_add, iZ_sub, iZ_mul, iZ_neg, lZ_add, lZ_sub, lZ_mul, iZ_lt, iZ_le, iZ_eq, lZ_lt, lZ_le, lZ_eq, iZ_64, iZ_N, inb_Z, if_pos, if_neg, ↓reduceIte, Bool.true_eq_false, Bool.false_eq_true, li7, li8, li12, li14, li34, li35, li36, li40, li101, li0, li1, li2, li3, li4, li5, li6, li9, li10, li16, li20, li23, li24, li25, li31, li33, li44, li48, li49, li50, li51, li57, li59, li60, li63, li69, li70, li71, li72, li74, li99, li100, li119, li126, li250, li296, li297, li298, li299, li300, li301, li302, li303, li606, li1515, li1818, li16384, li1048576, li2147483647, li10000, lj0, lj1, lj10000]
  · unfold fX5_strokeOf
    simp (disch := omega) only [e1, d05, hst, x6, x7, gd_true, gd_dec, lt_def, bind_s, isb_0, isb_1, iZ_add, iZ_sub, iZ_mul, iZ_neg, lZ_add, lZ_sub, lZ_mul, iZ_lt, iZ_le, iZ_eq, lZ_lt, lZ_le, lZ_eq, iZ_64, iZ_N, inb_Z, if_pos, if_neg, ↓reduceIte, Bool.true_eq_false, Bool.false_eq_true, li7, li8, li12, li14, li34, li35, li36, li40, li101, li0, li1, li2, li3, li4, li5, li6, li9, li10, li16, li20, li23, li24, li25, li31, li33, li44, li48, li49, li50, li51, li57, li59, li60, li63, li69, li70, li71, li72, li74, li99, li100, li119, li126, li250, li296, li297, li298, li299, li300, li301, li302, li303, li606, li1515, li1818, li16384, li1048576, li2147483647, li10000, lj0, lj1, lj10000]
  · unfold fX5_strokeOf
    simp (disch := omega) only [e1, d05, hst, x6, gd_true, gd_dec, lt_def, bind_s, isb_0, isb_1, iZ_add, iZ_sub, iZ_mul, iZ_neg, lZ_add, lZ_sub, lZ_mul, iZ_lt, iZ_le, iZ_eq, lZ_lt, lZ_le, lZ_eq, iZ_64, iZ_N, inb_Z, if_pos, if_neg, ↓reduceIte, Bool.true_eq_false, Bool.false_eq_true, li7, li8, li12, li14, li34, li35, li36, li40, li101, li0, li1, li2, li3, li4, li5, li6, li9, li10, li16, li20, li23, li24, li25, li31, li33, li44, li48, li49, li50, li51, li57, li59, li60, li63, li69, li70, li71, li72, li74, li99, li100, li119, li126, li250, li296, li297, li298, li299, li300, li301, li302, li303, li606, li1515, li1818, li16384, li1048576, li2147483647, li10000, lj0, lj1, lj10000]
/-! sums, counted from the other end -/
theorem su_add (g h : Int → Int) (a : Int) : ∀ k : Nat, su (fun i => g i + h i) a (a + k) = su g a (a + k) + su h a (a + k) := by
  intro k
  induction k with
  | zero =>
    rw [show a + ((0 : Nat) : Int) = a by omega, su_0, su_0, su_0]
    rfl
  | succ k ih =>
    rw [show a + ((k + 1 : Nat) : Int) = a + (k : Int) + 1 by omega, su_s _ (by omega), su_s _ (by omega), su_s _ (by omega), ih]
    omega
theorem reix (M : MK n K) (G : Int → Int → Int) : ∀ k : Nat, 1 ≤ k → (k : Int) ≤ n → su (fun i => if hb K i = true then G i (nx K i) else 0) 0 (pv K k) = su (fun j => if hb K j = true then G (pv K j) j else 0) 1 k := by
  have hn := M.1
  intro k
  induction k with
  | zero => intro h _; omega
  | succ k ih =>
    intro _ hk
    by_cases k0 : k = 0
    · subst k0
      have e : pv K ((0 + 1 : Nat) : Int) = 0 := IsPv.uniq (pv_is M (by omega)) ⟨by omega, by omega, M.2.1, fun i p q => by omega⟩
      rw [e, su_0]
      exact (su_0 _ _).symm
    · have ih := ih (by omega) (by omega)
      obtain ⟨p1, p2, p3, p4⟩ := pv_is M (k := (k : Int)) (by omega)
      rw [show ((k + 1 : Nat) : Int) = (k : Int) + 1 by omega, su_s _ (show (1 : Int) ≤ (k : Int) by omega), ← ih]
      cases hK : hb K (k : Int) with
      | true =>
        have e : pv K ((k : Int) + 1) = k := IsPv.uniq (pv_is M (by omega)) ⟨by omega, by omega, hK, fun i p q => by omega⟩
        have e2 : nx K (pv K k) = k := IsNx.uniq (nx_is M p2 (by omega)).1 ⟨p1, hK, fun i p q => p4 i p q⟩
        rw [e, if_pos rfl, su_skip _ (a := 0) (k := pv K k + 1) (j := (k : Int)) (by omega) (by omega) (fun i i0 i1 => by rw [p4 i (by omega) i1]; rfl), su_s _ p2, p3, if_pos rfl, e2]
      | false =>
        have e : pv K ((k : Int) + 1) = pv K k := IsPv.uniq (pv_is M (by omega)) ⟨by omega, p2, p3, fun i p q => by
          by_cases ei : i = k
          · rw [ei]; exact hK
          · exact p4 i p (by omega)⟩
        rw [e, if_neg (by decide), Int.add_zero]
noncomputable def LF (N : Int → Int) (n : Int) (K : Int32) (i : Int) : Int := if hb K i = true ∧ i < n - 1 then rt (10000 * sqD N i (nx K i)) else 0
theorem sum_len (M : MK n K) : su (lnF N K) 1 n = su (LF N n K) 0 n := by
  have hn := M.1
  obtain ⟨m, hm⟩ := nat_of (show 0 ≤ n by omega)
  have h := reix M (fun i j => rt (10000 * sqD N i j)) m (by omega) (by omega)
  have e : pv K (m : Int) = n - 1 := IsPv.uniq (pv_is M (by omega)) ⟨by omega, by omega, M.2.2.1, fun i p q => by omega⟩
  rw [e, ← hm] at h
  have h1 : su (lnF N K) 1 n = su (fun j => if hb K j = true then rt (10000 * sqD N (pv K j) j) else 0) 1 n := su_cg (fun i _ _ => rfl)
  rw [h1, ← h]
  have e2 := su_s (LF N n K) (a := 0) (k := n - 1) (by omega)
  rw [show n - 1 + 1 = n by omega] at e2
  rw [e2]
  have e3 : LF N n K (n - 1) = 0 := if_neg (by omega)
  rw [e3, Int.add_zero]
  refine su_cg (fun i i0 i1 => ?_)
  unfold LF
  by_cases hi : hb K i = true
  · rw [if_pos hi, if_pos ⟨hi, i1⟩]
  · rw [if_neg hi, if_neg (fun q => hi q.1)]
noncomputable def JF (N : Int → Int) (n : Int) (K : Int32) (lim i : Int) : Int := if hb K i = true ∧ 0 < i ∧ i < n - 1 then bi (shB N (pv K i) i (nx K i) lim) else 0
theorem sum_join (M : MK n K) (lim : Int) : su (jnF N K lim) 1 (n - 1) = su (JF N n K lim) 0 n := by
  have hn := M.1
  have e2 := su_s (JF N n K lim) (a := 0) (k := n - 1) (by omega)
  rw [show n - 1 + 1 = n by omega] at e2
  have e3 : JF N n K lim (n - 1) = 0 := if_neg (by omega)
  have e4 := su_split (JF N n K lim) (a := 0) (b := 1) (k := n - 1) (by omega) (by omega)
  have e5 : su (JF N n K lim) 0 1 = 0 := by
    have := su_s (JF N n K lim) (a := 0) (k := 0) (by omega)
    rw [su_0] at this
    have z : JF N n K lim 0 = 0 := if_neg (by omega)
    rw [z] at this
    exact this
  rw [e2, e3, e4, e5, Int.add_zero, Int.zero_add]
  refine su_cg (fun i i0 i1 => ?_)
  unfold jnF JF
  by_cases hi : hb K i = true
  · rw [if_pos hi, if_pos ⟨hi, by omega, i1⟩]
  · rw [if_neg hi, if_neg (fun q => hi q.1)]
noncomputable def XI (N : Int → Int) (K : Int32) (c i : Int) : Int := if hb K i = true ∧ nx K i < c then bi (crB N i (nx K i) c (nx K c)) else 0
noncomputable def XF (N : Int → Int) (n : Int) (K : Int32) (c : Int) : Int := if hb K c = true ∧ c < n - 1 then su (XI N K c) 0 c else 0
noncomputable def tbc (N : Int → Int) (K : Int32) (b c : Int) : Int := if hb K b = true then (if hb K c = true then bi (crB N (pv K b) b c (nx K c)) else 0) else 0
theorem xi_sum (M : MK n K) {c : Int} (c0 : 0 ≤ c) (c1 : c < n) (hK : hb K c = true) : su (XI N K c) 0 c = su (fun b => tbc N K b c) 1 c := by
  have hn := M.1
  by_cases e0 : c = 0
  · subst e0
    rw [su_0, su_e _ (by omega)]
  · obtain ⟨m, hm⟩ := nat_of c0
    have h := reix M (fun i j => bi (crB N i j c (nx K c))) m (by omega) (by omega)
    rw [← hm] at h
    obtain ⟨p1, p2, p3, p4⟩ := pv_is M (k := c) (by omega)
    have e1 : su (fun b => tbc N K b c) 1 c = su (fun j => if hb K j = true then bi (crB N (pv K j) j c (nx K c)) else 0) 1 c := su_cg (fun i _ _ => by
      unfold tbc
      rw [hK, if_pos rfl])
    rw [e1, ← h]
    have e2 : nx K (pv K c) = c := IsNx.uniq (nx_is M p2 (by omega)).1 ⟨p1, hK, fun i p q => p4 i p q⟩
    rw [su_skip (XI N K c) (a := 0) (k := pv K c) (j := c) (by omega) (by omega) (fun i i0 i1 => by
      unfold XI
      by_cases ei : i = pv K c
      · rw [ei, e2, if_neg (by omega)]
      · rw [if_neg (fun q => by rw [p4 i (by omega) i1] at q; exact absurd q.1 (by decide))])]
    refine su_cg (fun i i0 i1 => ?_)
    unfold XI
    by_cases hi : hb K i = true
    · have : nx K i ≤ pv K c := by
        obtain ⟨⟨x1, x2, x3⟩, -⟩ := nx_is M i0 (show i < n - 1 by omega)
        by_cases q : nx K i ≤ pv K c
        · exact q
        · have := x3 (pv K c) i1 (by omega)
          rw [p3] at this
          cases this
      rw [if_pos ⟨hi, by omega⟩, if_pos hi]
    · rw [if_neg (fun q => hi q.1), if_neg hi]
theorem su_swap (t : Int → Int → Int) (L : Nat) : ∀ M : Nat, M ≤ L → su (fun c => su (fun b => t b c) 1 c) 0 M = su (fun b => su (t b) (b + 1) M) 1 L := by
  intro M
  induction M with
  | zero =>
    intro _
    have e : su (fun b => su (t b) (b + 1) ((0 : Nat) : Int)) 1 L = su (fun _ => 0) 1 L := su_cg (fun i i0 _ => su_e _ (by omega))
    have e2 : su (fun _ : Int => (0 : Int)) 1 L = 0 := by
      by_cases h : (1 : Int) ≤ L
      · have := su_skip (fun _ : Int => (0 : Int)) (a := 1) (k := 1) (j := (L : Int)) (by omega) h (fun _ _ _ => rfl)
        rw [this, su_0]
      · exact su_e _ (by omega)
    rw [e, e2]
    exact su_0 _ _
  | succ M ih =>
    intro h
    have ih := ih (by omega)
    rw [show ((M + 1 : Nat) : Int) = (M : Int) + 1 by omega, su_s _ (by omega), ih]
    have e : su (fun b => su (t b) (b + 1) ((M : Int) + 1)) 1 L = su (fun b => su (t b) (b + 1) M + (if b < M then t b M else 0)) 1 L := su_cg (fun b b0 b1 => by
      by_cases hb' : b < M
      · rw [if_pos hb', su_s _ (by omega)]
      · rw [if_neg hb', su_e _ (by omega), su_e _ (by omega)]
        rfl)
    rw [e]
    have a := su_add (fun b => su (t b) (b + 1) M) (fun b => if b < M then t b M else 0) 1 (L - 1)
    have eL : (1 : Int) + ((L - 1 : Nat) : Int) = (L : Int) := by omega
    rw [eL] at a
    rw [a]
    by_cases m1 : 1 ≤ M
    · have s1 := su_split (fun b => if b < (M : Int) then t b M else 0) (a := 1) (b := (M : Int)) (k := (L : Int)) (by omega) (by omega)
      have s2 : su (fun b => if b < (M : Int) then t b M else 0) M L = 0 := by
        have := su_skip (fun b => if b < (M : Int) then t b M else 0) (a := (M : Int)) (k := (M : Int)) (j := (L : Int)) (by omega) (by omega) (fun i i0 _ => if_neg (by omega))
        rw [this, su_0]
      have s3 : su (fun b => if b < (M : Int) then t b M else 0) 1 M = su (fun b => t b M) 1 M := su_cg (fun i _ i1 => if_pos i1)
      rw [s1, s2, s3, Int.add_zero]
    · have : M = 0 := by omega
      subst this
      have s1 : su (fun b => t b ((0 : Nat) : Int)) 1 ((0 : Nat) : Int) = 0 := su_e _ (by omega)
      have s2 : su (fun b => if b < ((0 : Nat) : Int) then t b ((0 : Nat) : Int) else 0) 1 L = 0 := by
        have := su_skip (fun b => if b < ((0 : Nat) : Int) then t b ((0 : Nat) : Int) else 0) (a := 1) (k := 1) (j := (L : Int)) (by omega) (by omega) (fun i i0 _ => if_neg (by omega))
        rw [this, su_0]
      rw [s1, s2]
theorem sum_cross (M : MK n K) : su (csF N K n) 1 n = su (XF N n K) 0 n := by
  have hn := M.1
  have e2 := su_s (XF N n K) (a := 0) (k := n - 1) (by omega)
  rw [show n - 1 + 1 = n by omega] at e2
  have e3 : XF N n K (n - 1) = 0 := if_neg (by omega)
  rw [e2, e3, Int.add_zero]
  have e4 : su (XF N n K) 0 (n - 1) = su (fun c => su (fun b => tbc N K b c) 1 c) 0 (n - 1) := su_cg (fun c c0 c1 => by
    unfold XF
    cases hK : hb K c with
    | true =>
      rw [if_pos ⟨rfl, c1⟩]
      exact xi_sum M c0 (by omega) hK
    | false =>
      rw [if_neg (fun q => absurd q.1 (by decide))]
      symm
      by_cases h1 : (1 : Int) ≤ c
      · have := su_skip (fun b => tbc N K b c) (a := 1) (k := 1) (j := c) (by omega) h1 (fun b _ _ => by
          unfold tbc
          rw [hK]
          cases hb K b <;> rfl)
        rw [this, su_0]
      · exact su_e _ (by omega))
  obtain ⟨m, hm⟩ := nat_of (show 0 ≤ n by omega)
  have sw := su_swap (tbc N K) m (m - 1) (by omega)
  rw [show ((m - 1 : Nat) : Int) = n - 1 by omega, ← hm] at sw
  rw [e4, sw]
  refine su_cg (fun b b0 b1 => ?_)
  unfold csF
  cases hK : hb K b with
  | true =>
    rw [if_pos rfl]
    refine su_cg (fun c c0 c1 => ?_)
    unfold ciF tbc
    rw [hK, if_pos rfl]
  | false =>
    rw [if_neg (by decide)]
    symm
    by_cases h1 : b + 1 ≤ n - 1
    · have := su_skip (tbc N K b) (a := b + 1) (k := b + 1) (j := n - 1) (by omega) h1 (fun c _ _ => by
        unfold tbc
        rw [hK]
        rfl)
      rw [this, su_0]
    · exact su_e _ (by omega)
/-! the law's loops -/
theorem kd1 {w : Int} (h : 0 ≤ w ∧ w ≤ 6) : (iZ w >>> (iZ 1 &&& iZ 31)) &&& iZ 1 = iZ (if iZ w &&& iZ 2 = iZ 0 then 0 else 1) ∧ iZ w >>> (iZ 2 &&& iZ 31) = iZ (if iZ w &&& iZ 4 = iZ 0 then 0 else 1) := by
  have : w = 0 ∨ w = 1 ∨ w = 2 ∨ w = 3 ∨ w = 4 ∨ w = 5 ∨ w = 6 := by omega
  rcases this with rfl | rfl | rfl | rfl | rfl | rfl | rfl <;> decide
theorem l_cr (hm : Row f n N) (hc : Crd n N) (hn : n ≤ 12) (M : MK n K) {k : Int} (k0 : 0 ≤ k) (k1 : k < n) (x : Int) : lL_isSo_385 (iZ n) K (iZ k) (iZ (bi (hb K k))) f 36 (iZ x) (iZ 0) = some (iZ (x + XF N n K k)) := by
  have n2 := M.1
  unfold XF
  by_cases c : hb K k = true ∧ k < n - 1
  · rw [if_pos c, c.1, bi_tr]
    have en := l_next (K := K) (k := k) k0 (nx_is M k0 c.2).1 (by have := (nx_is M k0 c.2).2; omega)
    have nb := (nx_is M k0 c.2)
    have h := lp_fold (f := bL_isSo_385 (iZ n) K (iZ k) (iZ 1) f 36) (fun i => (iZ (x + su (XI N K k) 0 i), iZ i)) (i := 0) (n := k) (r := iZ (x + su (XI N K k) 0 k)) k0 (fun i i0 i1 => by
      rw [su_s _ i0]
      cases hi : hb K i with
      | false =>
        have e : XI N K k i = 0 := if_neg (fun q => by rw [hi] at q; exact absurd q.1 (by decide))
        rw [e]
        simp (disch := omega) only [bL_isSo_385, hb_r, hi, Int.add_zero, gd_true, gd_dec, lt_def, bind_s, isb_0, isb_1, iZ_add, iZ_sub, iZ_mul, iZ_neg, lZ_add, lZ_sub, lZ_mul, iZ_lt, iZ_le, iZ_eq, lZ_lt, lZ_le, lZ_eq, iZ_64, iZ_N, inb_Z, if_pos, if_neg, ↓reduceIte, Bool.true_eq_false, Bool.false_eq_true, li7, li8, li12, li14, li34, li35, li36, li40, li101, li0, li1, li2, li3, li4, li5, li6, li9, li10, li16, li20, li23, li24, li25, li31, li33, li44, li48, li49, li50, li51, li57, li59, li60, li63, li69, li70, li71, li72, li74, li99, li100, li119, li126, li250, li296, li297, li298, li299, li300, li301, li302, li303, li606, li1515, li1818, li16384, li1048576, li2147483647, li10000, lj0, lj1, lj10000]
      | true =>
        obtain ⟨J, j1⟩ := nx_is M i0 (show i < n - 1 by omega)
        have j0 := J.1
        have ei := l_next (K := K) (k := i) i0 J (by omega)
        by_cases c2 : nx K i < k
        · have e : XI N K k i = bi (crB N i (nx K i) k (nx K k)) := if_pos ⟨hi, c2⟩
          have ep := l_pair hm hc hn (a := i) (b := nx K i) (i := k) (j := nx K k) i0 (by omega) (by omega) (by omega) k0 k1 (by have := nb.1.1; omega) (by omega)
          rw [e]
          cases hcb : crB N i (nx K i) k (nx K k) with
          | true =>
            rw [hcb, bi_tr] at ep
            rw [bi_tr]
            simp (disch := omega) only [bL_isSo_385, hb_r, hi, ei, en, ep, Int.add_assoc, gd_true, gd_dec, lt_def, bind_s, isb_0, isb_1, iZ_add, iZ_sub, iZ_mul, iZ_neg, lZ_add, lZ_sub, lZ_mul, iZ_lt, iZ_le, iZ_eq, lZ_lt, lZ_le, lZ_eq, iZ_64, iZ_N, inb_Z, if_pos, if_neg, ↓reduceIte, Bool.true_eq_false, Bool.false_eq_true, li7, li8, li12, li14, li34, li35, li36, li40, li101, li0, li1, li2, li3, li4, li5, li6, li9, li10, li16, li20, li23, li24, li25, li31, li33, li44, li48, li49, li50, li51, li57, li59, li60, li63, li69, li70, li71, li72, li74, li99, li100, li119, li126, li250, li296, li297, li298, li299, li300, li301, li302, li303, li606, li1515, li1818, li16384, li1048576, li2147483647, li10000, lj0, lj1, lj10000]
          | false =>
            rw [hcb, bi_fa] at ep
            rw [bi_fa]
            simp (disch := omega) only [bL_isSo_385, hb_r, hi, ei, en, ep, Int.add_zero, gd_true, gd_dec, lt_def, bind_s, isb_0, isb_1, iZ_add, iZ_sub, iZ_mul, iZ_neg, lZ_add, lZ_sub, lZ_mul, iZ_lt, iZ_le, iZ_eq, lZ_lt, lZ_le, lZ_eq, iZ_64, iZ_N, inb_Z, if_pos, if_neg, ↓reduceIte, Bool.true_eq_false, Bool.false_eq_true, li7, li8, li12, li14, li34, li35, li36, li40, li101, li0, li1, li2, li3, li4, li5, li6, li9, li10, li16, li20, li23, li24, li25, li31, li33, li44, li48, li49, li50, li51, li57, li59, li60, li63, li69, li70, li71, li72, li74, li99, li100, li119, li126, li250, li296, li297, li298, li299, li300, li301, li302, li303, li606, li1515, li1818, li16384, li1048576, li2147483647, li10000, lj0, lj1, lj10000]
        · have e : XI N K k i = 0 := if_neg (fun q => c2 q.2)
          rw [e]
          simp (disch := omega) only [bL_isSo_385, hb_r, hi, ei, Int.add_zero, gd_true, gd_dec, lt_def, bind_s, isb_0, isb_1, iZ_add, iZ_sub, iZ_mul, iZ_neg, lZ_add, lZ_sub, lZ_mul, iZ_lt, iZ_le, iZ_eq, lZ_lt, lZ_le, lZ_eq, iZ_64, iZ_N, inb_Z, if_pos, if_neg, ↓reduceIte, Bool.true_eq_false, Bool.false_eq_true, li7, li8, li12, li14, li34, li35, li36, li40, li101, li0, li1, li2, li3, li4, li5, li6, li9, li10, li16, li20, li23, li24, li25, li31, li33, li44, li48, li49, li50, li51, li57, li59, li60, li63, li69, li70, li71, li72, li74, li99, li100, li119, li126, li250, li296, li297, li298, li299, li300, li301, li302, li303, li606, li1515, li1818, li16384, li1048576, li2147483647, li10000, lj0, lj1, lj10000]) (by
      simp (disch := omega) only [bL_isSo_385, gd_true, gd_dec, lt_def, bind_s, isb_0, isb_1, iZ_add, iZ_sub, iZ_mul, iZ_neg, lZ_add, lZ_sub, lZ_mul, iZ_lt, iZ_le, iZ_eq, lZ_lt, lZ_le, lZ_eq, iZ_64, iZ_N, inb_Z, if_pos, if_neg, ↓reduceIte, Bool.true_eq_false, Bool.false_eq_true, li7, li8, li12, li14, li34, li35, li36, li40, li101, li0, li1, li2, li3, li4, li5, li6, li9, li10, li16, li20, li23, li24, li25, li31, li33, li44, li48, li49, li50, li51, li57, li59, li60, li63, li69, li70, li71, li72, li74, li99, li100, li119, li126, li250, li296, li297, li298, li299, li300, li301, li302, li303, li606, li1515, li1818, li16384, li1048576, li2147483647, li10000, lj0, lj1, lj10000])
    rw [su_0, Int.add_zero] at h
    exact h
  · rw [if_neg c, Int.add_zero]
    unfold lL_isSo_385
    refine lp_out ?_
    by_cases c1 : k = 0
    · subst c1
      simp (disch := omega) only [bL_isSo_385, gd_true, gd_dec, lt_def, bind_s, isb_0, isb_1, iZ_add, iZ_sub, iZ_mul, iZ_neg, lZ_add, lZ_sub, lZ_mul, iZ_lt, iZ_le, iZ_eq, lZ_lt, lZ_le, lZ_eq, iZ_64, iZ_N, inb_Z, if_pos, if_neg, ↓reduceIte, Bool.true_eq_false, Bool.false_eq_true, li7, li8, li12, li14, li34, li35, li36, li40, li101, li0, li1, li2, li3, li4, li5, li6, li9, li10, li16, li20, li23, li24, li25, li31, li33, li44, li48, li49, li50, li51, li57, li59, li60, li63, li69, li70, li71, li72, li74, li99, li100, li119, li126, li250, li296, li297, li298, li299, li300, li301, li302, li303, li606, li1515, li1818, li16384, li1048576, li2147483647, li10000, lj0, lj1, lj10000]
    · cases hk : hb K k with
      | false =>
        rw [bi_fa]
        simp (disch := omega) only [bL_isSo_385, gd_true, gd_dec, lt_def, bind_s, isb_0, isb_1, iZ_add, iZ_sub, iZ_mul, iZ_neg, lZ_add, lZ_sub, lZ_mul, iZ_lt, iZ_le, iZ_eq, lZ_lt, lZ_le, lZ_eq, iZ_64, iZ_N, inb_Z, if_pos, if_neg, ↓reduceIte, Bool.true_eq_false, Bool.false_eq_true, li7, li8, li12, li14, li34, li35, li36, li40, li101, li0, li1, li2, li3, li4, li5, li6, li9, li10, li16, li20, li23, li24, li25, li31, li33, li44, li48, li49, li50, li51, li57, li59, li60, li63, li69, li70, li71, li72, li74, li99, li100, li119, li126, li250, li296, li297, li298, li299, li300, li301, li302, li303, li606, li1515, li1818, li16384, li1048576, li2147483647, li10000, lj0, lj1, lj10000]
      | true =>
        rw [bi_tr]
        have : ¬ k < n - 1 := fun q => c ⟨hk, q⟩
        simp (disch := omega) only [bL_isSo_385, gd_true, gd_dec, lt_def, bind_s, isb_0, isb_1, iZ_add, iZ_sub, iZ_mul, iZ_neg, lZ_add, lZ_sub, lZ_mul, iZ_lt, iZ_le, iZ_eq, lZ_lt, lZ_le, lZ_eq, iZ_64, iZ_N, inb_Z, if_pos, if_neg, ↓reduceIte, Bool.true_eq_false, Bool.false_eq_true, li7, li8, li12, li14, li34, li35, li36, li40, li101, li0, li1, li2, li3, li4, li5, li6, li9, li10, li16, li20, li23, li24, li25, li31, li33, li44, li48, li49, li50, li51, li57, li59, li60, li63, li69, li70, li71, li72, li74, li99, li100, li119, li126, li250, li296, li297, li298, li299, li300, li301, li302, li303, li606, li1515, li1818, li16384, li1048576, li2147483647, li10000, lj0, lj1, lj10000]
theorem bI {α β : Type} {x : Option α} {a : α} {f : α → Option β} {r : Option β} (h : x = some a) (k : f a = r) : x.bind f = r := by
  rw [h]
  exact k
theorem iT {α : Type} {c : Prop} {h : Decidable c} {a b q : α} (hc : c) (k : a = q) : @ite α c h a b = q := (if_pos hc).trans k
theorem iF {α : Type} {c : Prop} {h : Decidable c} {a b q : α} (hc : ¬ c) (k : b = q) : @ite α c h a b = q := (if_neg hc).trans k
theorem gI {α : Type} {b : Bool} {x q : Option α} (h : b = true) (k : x = q) : gd b x = q := by
  rw [h]
  exact k
def GsK (g0 : Int → Int) (k g p : Int) : Prop := k = 0 ∧ g = 0 ∧ p = 0 ∨ 1 ≤ k ∧ IsGs g0 k g p
theorem l_so (P : PS1 u n N K v) (hm : Row f n N) (hn : n ≤ 10) : fL_isSo (iZ 0) (iZ n) K 36 u f = some (iZ 1) := by
  obtain ⟨-, hv1, hv2, hv3⟩ := q_v P
  obtain ⟨⟨-, M, hc⟩, -, -⟩ := id P
  have n2 := M.1
  have s1 := q_set P (i := 1) (by omega) (by omega)
  have s2 := q_set P (i := 2) (by omega) (by omega)
  have s3 := q_set P (i := 3) (by omega) (by omega)
  have hm' : ∀ j : Int, 0 ≤ j → j < 3 * n → f j.toNat = iZ (N j) := hm
  obtain ⟨r, h1, g, p, rfl, hg⟩ := lp_up (f := bL_isSo_27 (iZ 0) (iZ n) K u f 36) (fun k st => ∃ (y : Int32) (g p : Int), st = (y, iZ (su (bitP (kdD N n (v 1) (v 2)) 2) 0 k), iZ (su (bitP (kdD N n (v 1) (v 2)) 4) 0 k), iZ g, iZ p, iZ (su (LF N n K) 0 k), iZ (su (JF N n K (v 3)) 0 k), iZ (su (XF N n K) 0 k), iZ k) ∧ GsK (strD N K) k g p ∧ 0 ≤ g ∧ g < 2147483648) (fun r => ∃ g p : Int, r = (iZ (su (bitP (kdD N n (v 1) (v 2)) 2) 0 n), iZ (su (bitP (kdD N n (v 1) (v 2)) 4) 0 n), iZ g, iZ p, iZ (su (LF N n K) 0 n), iZ (su (JF N n K (v 3)) 0 n), iZ (su (XF N n K) 0 n)) ∧ IsGs (strD N K) n g p) (i := 0) (n := n) (by omega) (by
    rintro k st k0 k1 ⟨y, g, p, rfl, hG, g0, g1⟩
    have kd := kdD_b N n (v 1) (v 2) k
    obtain ⟨t1, t2⟩ := kd1 kd
    obtain ⟨z1, z2, z3, z4, z5, z6⟩ := q_point P k0 k1
    have a1 := hm' (3 * k) (by omega) (by omega)
    have a2 := hm' (3 * k + 1) (by omega) (by omega)
    have a3 := hm' (3 * k + 2) (by omega) (by omega)
    have ef := l_fixed hm hc (show n ≤ 12 by omega) k0 k1 hv1.1 hv1.2 (show 0 ≤ v 2 by omega) (show v 2 ≤ 100 by omega)
    have ec := l_cr hm hc (show n ≤ 12 by omega) M k0 k1 (su (XF N n K) 0 k)
    have sb := strD_b M hc k0 k1
    have b2 : bitP (kdD N n (v 1) (v 2)) 2 k = if iZ (kdD N n (v 1) (v 2) k) &&& iZ 2 = iZ 0 then 0 else 1 := rfl
    have b4 : bitP (kdD N n (v 1) (v 2)) 4 k = if iZ (kdD N n (v 1) (v 2) k) &&& iZ 4 = iZ 0 then 0 else 1 := rfl
    rw [← b2] at t1
    rw [← b4] at t2
    -- the new greatest stray
    obtain ⟨g', p', hG', g0', g1', eg⟩ : ∃ g' p' : Int, GsK (strD N K) (k + 1) g' p' ∧ 0 ≤ g' ∧ g' < 2147483648 ∧ (strD N K k ≤ g ∧ g' = g ∧ p' = p ∨ g < strD N K k ∧ g' = strD N K k ∧ p' = k) := by
      by_cases c : strD N K k ≤ g
      · refine ⟨g, p, Or.inr ⟨by omega, ?_⟩, g0, g1, Or.inl ⟨c, rfl, rfl⟩⟩
        rcases hG with ⟨rfl, rfl, rfl⟩ | ⟨-, ⟨q0, q1⟩, q2, q3, q4⟩
        · have e : strD N K 0 = 0 := by
            unfold strD
            rw [M.2.1]
            rfl
          exact ⟨⟨by omega, by omega⟩, e, fun j j0 j1 => by rw [show j = 0 by omega, e]; exact Int.le_refl 0, fun j j0 j1 => by omega⟩
        · refine ⟨⟨q0, by omega⟩, q2, fun j j0 j1 => ?_, q4⟩
          by_cases e : j = k
          · rw [e]; exact c
          · exact q3 j j0 (by omega)
      · refine ⟨strD N K k, k, Or.inr ⟨by omega, ⟨k0, by omega⟩, rfl, fun j j0 j1 => ?_, fun j j0 j1 => ?_⟩, sb.1, sb.2, Or.inr ⟨by omega, rfl, rfl⟩⟩
        · by_cases e : j = k
          · rw [e]; exact Int.le_refl _
          · rcases hG with ⟨rfl, rfl, rfl⟩ | ⟨-, -, -, q3, -⟩
            · omega
            · have := q3 j j0 (by omega)
              omega
        · rcases hG with ⟨rfl, rfl, rfl⟩ | ⟨-, -, -, q3, -⟩
          · omega
          · have := q3 j j0 j1
            omega
    -- the terms
    have hstr : ((if iZ (bi (hb K k)) = iZ 0 then ((fL_last K (iZ k)).bind fun r35 => (fL_next K (iZ k)).bind fun r36 => (fL_hundredths (iZ k) r35 r36 36 f).bind fun r37 => some r37) else some (iZ 0)) : Option Int32) = some (iZ (strD N K k)) := by
      unfold strD
      cases hk : hb K k with
      | true =>
        rw [bi_tr]
        simp (disch := omega) only [gd_true, gd_dec, lt_def, bind_s, isb_0, isb_1, iZ_add, iZ_sub, iZ_mul, iZ_neg, lZ_add, lZ_sub, lZ_mul, iZ_lt, iZ_le, iZ_eq, lZ_lt, lZ_le, lZ_eq, iZ_64, iZ_N, inb_Z, if_pos, if_neg, ↓reduceIte, Bool.true_eq_false, Bool.false_eq_true, li7, li8, li12, li14, li34, li35, li36, li40, li101, li0, li1, li2, li3, li4, li5, li6, li9, li10, li16, li20, li23, li24, li25, li31, li33, li44, li48, li49, li50, li51, li57, li59, li60, li63, li69, li70, li71, li72, li74, li99, li100, li119, li126, li250, li296, li297, li298, li299, li300, li301, li302, li303, li606, li1515, li1818, li16384, li1048576, li2147483647, li10000, lj0, lj1, lj10000]
      | false =>
        have e0 : k ≠ 0 := fun q => by rw [q, M.2.1] at hk; cases hk
        have e1 : k ≠ n - 1 := fun q => by rw [q, M.2.2.1] at hk; cases hk
        obtain ⟨p1, p2, p3, p4⟩ := pv_is M (k := k) (by omega)
        obtain ⟨⟨x1, x2, x3⟩, x4⟩ := nx_is M (k := k) k0 (by omega)
        rw [bi_fa]
        simp (disch := omega) only [l_last (K := K) (k := k) (by omega) ⟨p1, p2, p3, p4⟩, l_next (K := K) (k := k) k0 ⟨x1, x2, x3⟩ (by omega), l_hund hm hc (show n ≤ 12 by omega) (k := k) (a := pv K k) (b := nx K k) k0 k1 p2 (by omega) (by omega) (by omega), gd_true, gd_dec, lt_def, bind_s, isb_0, isb_1, iZ_add, iZ_sub, iZ_mul, iZ_neg, lZ_add, lZ_sub, lZ_mul, iZ_lt, iZ_le, iZ_eq, lZ_lt, lZ_le, lZ_eq, iZ_64, iZ_N, inb_Z, if_pos, if_neg, ↓reduceIte, Bool.true_eq_false, Bool.false_eq_true, li7, li8, li12, li14, li34, li35, li36, li40, li101, li0, li1, li2, li3, li4, li5, li6, li9, li10, li16, li20, li23, li24, li25, li31, li33, li44, li48, li49, li50, li51, li57, li59, li60, li63, li69, li70, li71, li72, li74, li99, li100, li119, li126, li250, li296, li297, li298, li299, li300, li301, li302, li303, li606, li1515, li1818, li16384, li1048576, li2147483647, li10000, lj0, lj1, lj10000]
    have hlen : ((if iZ (bi (hb K k)) = iZ 0 then some (iZ 0) else (if iZ n - 1 ≤ iZ k then some (iZ 0) else ((fL_next K (iZ k)).bind fun r53 => (fL_next K (iZ k)).bind fun r54 => (fL_product (iZ k) r53 (iZ k) r54 36 f).bind fun r55 => (fL_root (lZ 10000 * r55)).bind fun r56 => some r56))) : Option Int32) = some (iZ (LF N n K k)) := by
      unfold LF
      cases hk : hb K k with
      | false =>
        rw [bi_fa, if_neg (fun q : false = true ∧ k < n - 1 => absurd q.1 (by decide))]
        simp (disch := omega) only [gd_true, gd_dec, lt_def, bind_s, isb_0, isb_1, iZ_add, iZ_sub, iZ_mul, iZ_neg, lZ_add, lZ_sub, lZ_mul, iZ_lt, iZ_le, iZ_eq, lZ_lt, lZ_le, lZ_eq, iZ_64, iZ_N, inb_Z, if_pos, if_neg, ↓reduceIte, Bool.true_eq_false, Bool.false_eq_true, li7, li8, li12, li14, li34, li35, li36, li40, li101, li0, li1, li2, li3, li4, li5, li6, li9, li10, li16, li20, li23, li24, li25, li31, li33, li44, li48, li49, li50, li51, li57, li59, li60, li63, li69, li70, li71, li72, li74, li99, li100, li119, li126, li250, li296, li297, li298, li299, li300, li301, li302, li303, li606, li1515, li1818, li16384, li1048576, li2147483647, li10000, lj0, lj1, lj10000]
      | true =>
        rw [bi_tr]
        by_cases c : k < n - 1
        · obtain ⟨⟨x1, x2, x3⟩, x4⟩ := nx_is M (k := k) k0 c
          have b := sqD_b hc (a := k) (b := nx K k) k0 k1 (by omega) (by omega)
          rw [if_pos (show true = true ∧ k < n - 1 from ⟨rfl, c⟩)]
          simp (disch := omega) only [l_next (K := K) (k := k) k0 ⟨x1, x2, x3⟩ (by omega), l_sq hm hc (show n ≤ 12 by omega) (a := k) (b := nx K k) k0 k1 (by omega) (by omega), l_root (v := 10000 * sqD N k (nx K k)) (by omega) (by omega), gd_true, gd_dec, lt_def, bind_s, isb_0, isb_1, iZ_add, iZ_sub, iZ_mul, iZ_neg, lZ_add, lZ_sub, lZ_mul, iZ_lt, iZ_le, iZ_eq, lZ_lt, lZ_le, lZ_eq, iZ_64, iZ_N, inb_Z, if_pos, if_neg, ↓reduceIte, Bool.true_eq_false, Bool.false_eq_true, li7, li8, li12, li14, li34, li35, li36, li40, li101, li0, li1, li2, li3, li4, li5, li6, li9, li10, li16, li20, li23, li24, li25, li31, li33, li44, li48, li49, li50, li51, li57, li59, li60, li63, li69, li70, li71, li72, li74, li99, li100, li119, li126, li250, li296, li297, li298, li299, li300, li301, li302, li303, li606, li1515, li1818, li16384, li1048576, li2147483647, li10000, lj0, lj1, lj10000]
        · rw [if_neg (fun q : true = true ∧ k < n - 1 => c q.2)]
          simp (disch := omega) only [gd_true, gd_dec, lt_def, bind_s, isb_0, isb_1, iZ_add, iZ_sub, iZ_mul, iZ_neg, lZ_add, lZ_sub, lZ_mul, iZ_lt, iZ_le, iZ_eq, lZ_lt, lZ_le, lZ_eq, iZ_64, iZ_N, inb_Z, if_pos, if_neg, ↓reduceIte, Bool.true_eq_false, Bool.false_eq_true, li7, li8, li12, li14, li34, li35, li36, li40, li101, li0, li1, li2, li3, li4, li5, li6, li9, li10, li16, li20, li23, li24, li25, li31, li33, li44, li48, li49, li50, li51, li57, li59, li60, li63, li69, li70, li71, li72, li74, li99, li100, li119, li126, li250, li296, li297, li298, li299, li300, li301, li302, li303, li606, li1515, li1818, li16384, li1048576, li2147483647, li10000, lj0, lj1, lj10000]
    have hjn : ((if iZ (bi (hb K k)) = iZ 0 then some (iZ 0) else (if iZ k ≤ iZ 0 then some (iZ 0) else (if iZ n - 1 ≤ iZ k then some (iZ 0) else ((fL_last K (iZ k)).bind fun r62 => (fL_next K (iZ k)).bind fun r63 => (fX5_setting (iZ 3) u).bind fun r64 => (fL_isSharp r62 (iZ k) r63 r64 36 f).bind fun r65 => if r65 = iZ 0 then some (iZ 0) else some (iZ 1))))) : Option Int32) = some (iZ (JF N n K (v 3) k)) := by
      unfold JF
      cases hk : hb K k with
      | false =>
        rw [bi_fa, if_neg (fun q : false = true ∧ 0 < k ∧ k < n - 1 => absurd q.1 (by decide))]
        simp (disch := omega) only [gd_true, gd_dec, lt_def, bind_s, isb_0, isb_1, iZ_add, iZ_sub, iZ_mul, iZ_neg, lZ_add, lZ_sub, lZ_mul, iZ_lt, iZ_le, iZ_eq, lZ_lt, lZ_le, lZ_eq, iZ_64, iZ_N, inb_Z, if_pos, if_neg, ↓reduceIte, Bool.true_eq_false, Bool.false_eq_true, li7, li8, li12, li14, li34, li35, li36, li40, li101, li0, li1, li2, li3, li4, li5, li6, li9, li10, li16, li20, li23, li24, li25, li31, li33, li44, li48, li49, li50, li51, li57, li59, li60, li63, li69, li70, li71, li72, li74, li99, li100, li119, li126, li250, li296, li297, li298, li299, li300, li301, li302, li303, li606, li1515, li1818, li16384, li1048576, li2147483647, li10000, lj0, lj1, lj10000]
      | true =>
        rw [bi_tr]
        by_cases c : 0 < k ∧ k < n - 1
        · obtain ⟨p1, p2, p3, p4⟩ := pv_is M (k := k) (by omega)
          obtain ⟨⟨x1, x2, x3⟩, x4⟩ := nx_is M (k := k) k0 c.2
          have es := l_sharp hm hc (show n ≤ 12 by omega) (a := pv K k) (k := k) (b := nx K k) p2 (by omega) k0 k1 (by omega) (by omega) hv3.1 hv3.2
          rw [if_pos (show true = true ∧ 0 < k ∧ k < n - 1 from ⟨rfl, c⟩)]
          cases hs : shB N (pv K k) k (nx K k) (v 3) with
          | true =>
            rw [hs, bi_tr] at es
            rw [bi_tr]
            simp (disch := omega) only [l_last (K := K) (k := k) (by omega) ⟨p1, p2, p3, p4⟩, l_next (K := K) (k := k) k0 ⟨x1, x2, x3⟩ (by omega), s3, es, gd_true, gd_dec, lt_def, bind_s, isb_0, isb_1, iZ_add, iZ_sub, iZ_mul, iZ_neg, lZ_add, lZ_sub, lZ_mul, iZ_lt, iZ_le, iZ_eq, lZ_lt, lZ_le, lZ_eq, iZ_64, iZ_N, inb_Z, if_pos, if_neg, ↓reduceIte, Bool.true_eq_false, Bool.false_eq_true, li7, li8, li12, li14, li34, li35, li36, li40, li101, li0, li1, li2, li3, li4, li5, li6, li9, li10, li16, li20, li23, li24, li25, li31, li33, li44, li48, li49, li50, li51, li57, li59, li60, li63, li69, li70, li71, li72, li74, li99, li100, li119, li126, li250, li296, li297, li298, li299, li300, li301, li302, li303, li606, li1515, li1818, li16384, li1048576, li2147483647, li10000, lj0, lj1, lj10000]
          | false =>
            rw [hs, bi_fa] at es
            rw [bi_fa]
            simp (disch := omega) only [l_last (K := K) (k := k) (by omega) ⟨p1, p2, p3, p4⟩, l_next (K := K) (k := k) k0 ⟨x1, x2, x3⟩ (by omega), s3, es, gd_true, gd_dec, lt_def, bind_s, isb_0, isb_1, iZ_add, iZ_sub, iZ_mul, iZ_neg, lZ_add, lZ_sub, lZ_mul, iZ_lt, iZ_le, iZ_eq, lZ_lt, lZ_le, lZ_eq, iZ_64, iZ_N, inb_Z, if_pos, if_neg, ↓reduceIte, Bool.true_eq_false, Bool.false_eq_true, li7, li8, li12, li14, li34, li35, li36, li40, li101, li0, li1, li2, li3, li4, li5, li6, li9, li10, li16, li20, li23, li24, li25, li31, li33, li44, li48, li49, li50, li51, li57, li59, li60, li63, li69, li70, li71, li72, li74, li99, li100, li119, li126, li250, li296, li297, li298, li299, li300, li301, li302, li303, li606, li1515, li1818, li16384, li1048576, li2147483647, li10000, lj0, lj1, lj10000]
        · rw [if_neg (fun q : true = true ∧ 0 < k ∧ k < n - 1 => c q.2)]
          by_cases c2 : 0 < k
          · simp (disch := omega) only [gd_true, gd_dec, lt_def, bind_s, isb_0, isb_1, iZ_add, iZ_sub, iZ_mul, iZ_neg, lZ_add, lZ_sub, lZ_mul, iZ_lt, iZ_le, iZ_eq, lZ_lt, lZ_le, lZ_eq, iZ_64, iZ_N, inb_Z, if_pos, if_neg, ↓reduceIte, Bool.true_eq_false, Bool.false_eq_true, li7, li8, li12, li14, li34, li35, li36, li40, li101, li0, li1, li2, li3, li4, li5, li6, li9, li10, li16, li20, li23, li24, li25, li31, li33, li44, li48, li49, li50, li51, li57, li59, li60, li63, li69, li70, li71, li72, li74, li99, li100, li119, li126, li250, li296, li297, li298, li299, li300, li301, li302, li303, li606, li1515, li1818, li16384, li1048576, li2147483647, li10000, lj0, lj1, lj10000]
          · simp (disch := omega) only [gd_true, gd_dec, lt_def, bind_s, isb_0, isb_1, iZ_add, iZ_sub, iZ_mul, iZ_neg, lZ_add, lZ_sub, lZ_mul, iZ_lt, iZ_le, iZ_eq, lZ_lt, lZ_le, lZ_eq, iZ_64, iZ_N, inb_Z, if_pos, if_neg, ↓reduceIte, Bool.true_eq_false, Bool.false_eq_true, li7, li8, li12, li14, li34, li35, li36, li40, li101, li0, li1, li2, li3, li4, li5, li6, li9, li10, li16, li20, li23, li24, li25, li31, li33, li44, li48, li49, li50, li51, li57, li59, li60, li63, li69, li70, li71, li72, li74, li99, li100, li119, li126, li250, li296, li297, li298, li299, li300, li301, li302, li303, li606, li1515, li1818, li16384, li1048576, li2147483647, li10000, lj0, lj1, lj10000]
    have hbk : ((if (K >>> (iZ k &&& iZ 31)) &&& iZ 1 = iZ 1 then some (iZ 1) else some (iZ 0)) : Option Int32) = some (iZ (bi (hb K k))) := by
      cases hk : hb K k with
      | true => simp (disch := omega) only [hb_r, hk, bi_tr, gd_true, gd_dec, lt_def, bind_s, isb_0, isb_1, iZ_add, iZ_sub, iZ_mul, iZ_neg, lZ_add, lZ_sub, lZ_mul, iZ_lt, iZ_le, iZ_eq, lZ_lt, lZ_le, lZ_eq, iZ_64, iZ_N, inb_Z, if_pos, if_neg, ↓reduceIte, Bool.true_eq_false, Bool.false_eq_true, li7, li8, li12, li14, li34, li35, li36, li40, li101, li0, li1, li2, li3, li4, li5, li6, li9, li10, li16, li20, li23, li24, li25, li31, li33, li44, li48, li49, li50, li51, li57, li59, li60, li63, li69, li70, li71, li72, li74, li99, li100, li119, li126, li250, li296, li297, li298, li299, li300, li301, li302, li303, li606, li1515, li1818, li16384, li1048576, li2147483647, li10000, lj0, lj1, lj10000]
      | false => simp (disch := omega) only [hb_r, hk, bi_fa, gd_true, gd_dec, lt_def, bind_s, isb_0, isb_1, iZ_add, iZ_sub, iZ_mul, iZ_neg, lZ_add, lZ_sub, lZ_mul, iZ_lt, iZ_le, iZ_eq, lZ_lt, lZ_le, lZ_eq, iZ_64, iZ_N, inb_Z, if_pos, if_neg, ↓reduceIte, Bool.true_eq_false, Bool.false_eq_true, li7, li8, li12, li14, li34, li35, li36, li40, li101, li0, li1, li2, li3, li4, li5, li6, li9, li10, li16, li20, li23, li24, li25, li31, li33, li44, li48, li49, li50, li51, li57, li59, li60, li63, li69, li70, li71, li72, li74, li99, li100, li119, li126, li250, li296, li297, li298, li299, li300, li301, li302, li303, li606, li1515, li1818, li16384, li1048576, li2147483647, li10000, lj0, lj1, lj10000]
    have hbk2 : ((if iZ (bi (hb K k)) = iZ 0 then some (iZ 0) else some (iZ 1)) : Option Int32) = some (iZ (bi (hb K k))) := by
      cases hk : hb K k with
      | true => simp (disch := omega) only [bi_tr, gd_true, gd_dec, lt_def, bind_s, isb_0, isb_1, iZ_add, iZ_sub, iZ_mul, iZ_neg, lZ_add, lZ_sub, lZ_mul, iZ_lt, iZ_le, iZ_eq, lZ_lt, lZ_le, lZ_eq, iZ_64, iZ_N, inb_Z, if_pos, if_neg, ↓reduceIte, Bool.true_eq_false, Bool.false_eq_true, li7, li8, li12, li14, li34, li35, li36, li40, li101, li0, li1, li2, li3, li4, li5, li6, li9, li10, li16, li20, li23, li24, li25, li31, li33, li44, li48, li49, li50, li51, li57, li59, li60, li63, li69, li70, li71, li72, li74, li99, li100, li119, li126, li250, li296, li297, li298, li299, li300, li301, li302, li303, li606, li1515, li1818, li16384, li1048576, li2147483647, li10000, lj0, lj1, lj10000]
      | false => simp (disch := omega) only [bi_fa, gd_true, gd_dec, lt_def, bind_s, isb_0, isb_1, iZ_add, iZ_sub, iZ_mul, iZ_neg, lZ_add, lZ_sub, lZ_mul, iZ_lt, iZ_le, iZ_eq, lZ_lt, lZ_le, lZ_eq, iZ_64, iZ_N, inb_Z, if_pos, if_neg, ↓reduceIte, Bool.true_eq_false, Bool.false_eq_true, li7, li8, li12, li14, li34, li35, li36, li40, li101, li0, li1, li2, li3, li4, li5, li6, li9, li10, li16, li20, li23, li24, li25, li31, li33, li44, li48, li49, li50, li51, li57, li59, li60, li63, li69, li70, li71, li72, li74, li99, li100, li119, li126, li250, li296, li297, li298, li299, li300, li301, li302, li303, li606, li1515, li1818, li16384, li1048576, li2147483647, li10000, lj0, lj1, lj10000]
    obtain ⟨q, hq⟩ : ∃ q : Int32, ((if iZ (kdD N n (v 1) (v 2) k) ≤ iZ 0 then some (iZ 0) else some (iZ 1 <<< (iZ k &&& iZ 31))) : Option Int32) = some q := by
      split
      · exact ⟨_, rfl⟩
      · exact ⟨_, rfl⟩
    have hfi : ((if iZ (strD N K k) ≤ iZ g then some (iZ p) else some (iZ k)) : Option Int32) = some (iZ p') := by
      have e : (iZ (strD N K k) ≤ iZ g) = (strD N K k ≤ g) := iZ_le (by omega) (by omega) (by omega) (by omega)
      rcases eg with ⟨c, -, rfl⟩ | ⟨c, -, rfl⟩
      · exact if_pos (by rw [e]; exact c)
      · exact if_neg (by rw [e]; omega)
    have hmo : ((if iZ (strD N K k) ≤ iZ g then some (iZ g) else some (iZ (strD N K k))) : Option Int32) = some (iZ g') := by
      have e : (iZ (strD N K k) ≤ iZ g) = (strD N K k ≤ g) := iZ_le (by omega) (by omega) (by omega) (by omega)
      rcases eg with ⟨c, rfl, -⟩ | ⟨c, rfl, -⟩
      · exact if_pos (by rw [e]; exact c)
      · exact if_neg (by rw [e]; omega)
    refine ⟨(y ||| q, iZ (su (bitP (kdD N n (v 1) (v 2)) 2) 0 (k + 1)), iZ (su (bitP (kdD N n (v 1) (v 2)) 4) 0 (k + 1)), iZ g', iZ p', iZ (su (LF N n K) 0 (k + 1)), iZ (su (JF N n K (v 3)) 0 (k + 1)), iZ (su (XF N n K) 0 (k + 1)), iZ (k + 1)), ?_, y ||| q, g', p', rfl, hG', g0', g1'⟩
    rw [su_s _ k0, su_s _ k0, su_s _ k0, su_s _ k0, su_s _ k0]
    show bL_isSo_27 (iZ 0) (iZ n) K u f 36 (y, _, _, iZ g, iZ p, _, _, _, iZ k) = _
    rw [bL_isSo_27]
    have d1 : ¬ iZ n ≤ iZ k := by rw [iZ_le (by omega) (by omega) (by omega) (by omega)]; omega
    have i0 : inb ((3 : Int32) * iZ k) 36 = true := by rw [li3, iZ_mul]; exact inb_Z (by omega) (by omega) (by omega)
    have i1 : inb ((3 : Int32) * iZ k + 1) 36 = true := by rw [li3, li1, iZ_mul, iZ_add]; exact inb_Z (by omega) (by omega) (by omega)
    have i2 : inb ((3 : Int32) * iZ k + 2) 36 = true := by rw [li3, li2, iZ_mul, iZ_add]; exact inb_Z (by omega) (by omega) (by omega)
    have j0 : iZ (N (3 * k)) = f ((3 : Int32) * iZ k).toNatClampNeg := by rw [li3, iZ_mul, iZ_N (by omega) (by omega), a1]
    have j1 : iZ (N (3 * k + 1)) = f ((3 : Int32) * iZ k + 1).toNatClampNeg := by rw [li3, li1, iZ_mul, iZ_add, iZ_N (by omega) (by omega), a2]
    have j2 : iZ (N (3 * k + 2)) = f ((3 : Int32) * iZ k + 2).toNatClampNeg := by rw [li3, li2, iZ_mul, iZ_add, iZ_N (by omega) (by omega), a3]
    refine iF d1 ?_
    refine bI s1 ?_
    refine bI s2 ?_
    refine bI ef ?_
    refine bI hbk ?_
    refine bI hstr ?_
    refine bI z1 ?_
    refine gI i0 ?_
    refine iT j0 ?_
    refine bI z2 ?_
    refine gI i1 ?_
    refine iT j1 ?_
    refine bI z3 ?_
    refine gI i2 ?_
    refine iT j2 ?_
    refine bI z4 ?_
    refine bI hbk2 ?_
    refine iT rfl ?_
    refine bI z5 ?_
    refine iT rfl ?_
    refine bI z6 ?_
    refine iT rfl ?_
    refine bI hq ?_
    refine bI hfi ?_
    refine bI hmo ?_
    refine bI hlen ?_
    refine bI hjn ?_
    refine bI ec ?_
    simp only [li0, li1, li2, li31, t1, t2, iZ_add]) (by
    rintro st ⟨y, g, p, rfl, hG, -, -⟩
    refine ⟨_, ?_, g, p, rfl, ?_⟩
    · show bL_isSo_27 (iZ 0) (iZ n) K u f 36 (y, _, _, iZ g, iZ p, _, _, _, iZ n) = _
      rw [bL_isSo_27]
      exact if_pos (by rw [iZ_le (by omega) (by omega) (by omega) (by omega)]; omega)
    · rcases hG with ⟨h, -⟩ | ⟨-, h⟩
      · omega
      · exact h) (s := (iZ 0, iZ 0, iZ 0, iZ 0, iZ 0, iZ 0, iZ 0, iZ 0, iZ 0)) ⟨iZ 0, 0, 0, by rw [su_0, su_0, su_0, su_0, su_0], Or.inl ⟨rfl, rfl, rfl⟩, by omega, by omega⟩
  obtain ⟨z0, z1, z2, z3, z4, z5, z6, z7, g', p', hg', z8, z9⟩ := q_of P
  obtain ⟨rfl, rfl⟩ := hg.uniq hg'
  have eo := (l_ones (K := K) (n := n) (by omega) hn (fun j hj => M.hi j (by omega))).1
  unfold fL_isSo lL_isSo_27
  refine bI h1 ?_
  refine bI z0 ?_
  refine iT rfl ?_
  refine bI z1 ?_
  refine bI eo ?_
  refine iT rfl ?_
  refine bI z2 ?_
  refine iT rfl ?_
  refine bI z3 ?_
  refine iT rfl ?_
  refine bI z4 ?_
  refine iT (by rw [sum_len M]) ?_
  refine bI z8 ?_
  refine iT rfl ?_
  refine bI z9 ?_
  refine iT rfl ?_
  refine bI z5 ?_
  refine iT (by rw [sum_join M]) ?_
  refine bI z6 ?_
  refine iT rfl ?_
  refine bI z7 ?_
  refine iT (by rw [sum_cross M]) ?_
  rfl
end LD
