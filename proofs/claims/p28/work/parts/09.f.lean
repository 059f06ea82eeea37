/-! spans, lengths, joins, crossings -/
def IsLo (f : Int → Int) (n v : Int) : Prop := (∀ j : Int, 0 ≤ j → j < n → v ≤ f j) ∧ ∃ j : Int, 0 ≤ j ∧ j < n ∧ f j = v
def IsHi (f : Int → Int) (n v : Int) : Prop := (∀ j : Int, 0 ≤ j → j < n → f j ≤ v) ∧ ∃ j : Int, 0 ≤ j ∧ j < n ∧ f j = v
theorem IsLo.uniq {f : Int → Int} {n v w : Int} (h : IsLo f n v) (h2 : IsLo f n w) : v = w := by
  obtain ⟨a, i, i0, i1, ei⟩ := h
  obtain ⟨b, j, j0, j1, ej⟩ := h2
  have := a j j0 j1
  have := b i i0 i1
  omega
theorem IsHi.uniq {f : Int → Int} {n v w : Int} (h : IsHi f n v) (h2 : IsHi f n w) : v = w := by
  obtain ⟨a, i, i0, i1, ei⟩ := h
  obtain ⟨b, j, j0, j1, ej⟩ := h2
  have := a j j0 j1
  have := b i i0 i1
  omega
theorem IsLo.one (f : Int → Int) : IsLo f 1 (f 0) := ⟨fun j a b => by rw [show j = 0 by omega]; exact Int.le_refl _, 0, by omega, by omega, rfl⟩
theorem IsHi.one (f : Int → Int) : IsHi f 1 (f 0) := ⟨fun j a b => by rw [show j = 0 by omega]; exact Int.le_refl _, 0, by omega, by omega, rfl⟩
theorem IsLo.s {f : Int → Int} {k v : Int} (h : IsLo f k v) (k0 : 0 ≤ k) : IsLo f (k + 1) (if f k < v then f k else v) := by
  obtain ⟨a, i, i0, i1, ei⟩ := h
  split
  · refine ⟨fun j j0 j1 => ?_, k, k0, by omega, rfl⟩
    by_cases e : j = k
    · rw [e]; exact Int.le_refl _
    · have := a j j0 (by omega); omega
  · refine ⟨fun j j0 j1 => ?_, i, i0, by omega, ei⟩
    by_cases e : j = k
    · rw [e]; omega
    · exact a j j0 (by omega)
theorem IsHi.s {f : Int → Int} {k v : Int} (h : IsHi f k v) (k0 : 0 ≤ k) : IsHi f (k + 1) (if v < f k then f k else v) := by
  obtain ⟨a, i, i0, i1, ei⟩ := h
  split
  · refine ⟨fun j j0 j1 => ?_, k, k0, by omega, rfl⟩
    by_cases e : j = k
    · rw [e]; exact Int.le_refl _
    · have := a j j0 (by omega); omega
  · refine ⟨fun j j0 j1 => ?_, i, i0, by omega, ei⟩
    by_cases e : j = k
    · rw [e]; omega
    · exact a j j0 (by omega)
def cX (N : Int → Int) (w k : Int) : Int := N (3 * k + w)
section F1
variable {m : Nat → Int32} {n : Int} {N : Int → Int} {s K : Int32}
theorem c_spanX (hm : Row m n N) (hc : Crd n N) (hn : 1 ≤ n ∧ n ≤ 24) : ∃ v w, IsLo (cX N 0) n v ∧ IsHi (cX N 0) n w ∧ fX3_spanX (m, iZ n, K) = some (iZ (w - v)) := by
  have ez : ∀ k : Int, cX N 0 k = N (3 * k) := fun k => by unfold cX; rw [Int.add_zero]
  obtain ⟨r, h1, v, w, rfl, h2, h3⟩ := lp_up (f := bX3_spanX_14 (m, iZ n, K)) (fun k st => ∃ v w : Int, st = (iZ v, iZ w, iZ k) ∧ IsLo (cX N 0) k v ∧ IsHi (cX N 0) k w) (fun r => ∃ v w : Int, r = (iZ v, iZ w) ∧ IsLo (cX N 0) n v ∧ IsHi (cX N 0) n w) (i := 1) (n := n) (by omega) (by
    rintro k st k0 k1 ⟨v, w, rfl, hv, hw⟩
    have e := hc k (by omega) k1
    obtain ⟨i, i0, i1, ei⟩ := hv.2
    obtain ⟨j, j0, j1, ej⟩ := hw.2
    have ei2 := hc i i0 (by omega)
    have ej2 := hc j j0 (by omega)
    rw [ez] at ei ej
    have s1 := hv.s (by omega)
    have s2 := hw.s (by omega)
    rw [ez] at s1 s2
    refine ⟨(iZ (if N (3 * k) < v then N (3 * k) else v), iZ (if w < N (3 * k) then N (3 * k) else w), iZ (k + 1)), ?_, _, _, rfl, s1, s2⟩
    simp (disch := omega) only [bX3_spanX_14, S_size, c_x hm hn.2 (k := k) (by omega) k1, gd_true, gd_dec, lt_def, bind_s, isb_0, isb_1, iZ_add, iZ_sub, iZ_mul, iZ_neg, lZ_add, lZ_sub, lZ_mul, iZ_lt, iZ_le, iZ_eq, lZ_lt, lZ_le, lZ_eq, iZ_64, iZ_N, inb_Z, if_pos, if_neg, ↓reduceIte, Bool.true_eq_false, Bool.false_eq_true, li0, li1, li2, li3, li4, li5, li6, li9, li10, li16, li20, li23, li24, li25, li31, li33, li44, li48, li49, li50, li51, li57, li59, li60, li63, li69, li70, li71, li72, li74, li99, li100, li119, li126, li250, li296, li297, li298, li299, li300, li301, li302, li303, li606, li1515, li1818, li16384, li1048576, li2147483647, li10000, lj0, lj1, lj10000]
    by_cases q1 : N (3 * k) < v <;> by_cases q2 : w < N (3 * k) <;> simp only [q1, q2, ↓reduceIte]) (by
    rintro st ⟨v, w, rfl, hv, hw⟩
    refine ⟨(iZ v, iZ w), ?_, v, w, rfl, hv, hw⟩
    simp (disch := omega) only [bX3_spanX_14, S_size, gd_true, gd_dec, lt_def, bind_s, isb_0, isb_1, iZ_add, iZ_sub, iZ_mul, iZ_neg, lZ_add, lZ_sub, lZ_mul, iZ_lt, iZ_le, iZ_eq, lZ_lt, lZ_le, lZ_eq, iZ_64, iZ_N, inb_Z, if_pos, if_neg, ↓reduceIte, Bool.true_eq_false, Bool.false_eq_true, li0, li1, li2, li3, li4, li5, li6, li9, li10, li16, li20, li23, li24, li25, li31, li33, li44, li48, li49, li50, li51, li57, li59, li60, li63, li69, li70, li71, li72, li74, li99, li100, li119, li126, li250, li296, li297, li298, li299, li300, li301, li302, li303, li606, li1515, li1818, li16384, li1048576, li2147483647, li10000, lj0, lj1, lj10000]) (s := (iZ (N (3 * 0)), iZ (N (3 * 0)), iZ 1)) ⟨N (3 * 0), N (3 * 0), rfl, by rw [← ez]; exact IsLo.one _, by rw [← ez]; exact IsHi.one _⟩
  refine ⟨v, w, h2, h3, ?_⟩
  unfold fX3_spanX lX3_spanX_14
  have q := c_x (s := iZ n) (K := K) hm hn.2 (k := 0) (by omega) (by omega)
  rw [li0, q, bind_s, bind_s]
  have e : lp (bX3_spanX_14 (m, iZ n, K)) (iZ (N (3 * 0)), iZ (N (3 * 0)), 1) = some (iZ v, iZ w) := h1
  rw [e]
  simp (disch := omega) only [gd_true, gd_dec, lt_def, bind_s, isb_0, isb_1, iZ_add, iZ_sub, iZ_mul, iZ_neg, lZ_add, lZ_sub, lZ_mul, iZ_lt, iZ_le, iZ_eq, lZ_lt, lZ_le, lZ_eq, iZ_64, iZ_N, inb_Z, if_pos, if_neg, ↓reduceIte, Bool.true_eq_false, Bool.false_eq_true, li0, li1, li2, li3, li4, li5, li6, li9, li10, li16, li20, li23, li24, li25, li31, li33, li44, li48, li49, li50, li51, li57, li59, li60, li63, li69, li70, li71, li72, li74, li99, li100, li119, li126, li250, li296, li297, li298, li299, li300, li301, li302, li303, li606, li1515, li1818, li16384, li1048576, li2147483647, li10000, lj0, lj1, lj10000]
theorem c_spanY (hm : Row m n N) (hc : Crd n N) (hn : 1 ≤ n ∧ n ≤ 24) : ∃ v w, IsLo (cX N 1) n v ∧ IsHi (cX N 1) n w ∧ fX3_spanY (m, iZ n, K) = some (iZ (w - v)) := by
  have ez : ∀ k : Int, cX N 1 k = N (3 * k + 1) := fun k => rfl
  obtain ⟨r, h1, v, w, rfl, h2, h3⟩ := lp_up (f := bX3_spanY_14 (m, iZ n, K)) (fun k st => ∃ v w : Int, st = (iZ v, iZ w, iZ k) ∧ IsLo (cX N 1) k v ∧ IsHi (cX N 1) k w) (fun r => ∃ v w : Int, r = (iZ v, iZ w) ∧ IsLo (cX N 1) n v ∧ IsHi (cX N 1) n w) (i := 1) (n := n) (by omega) (by
    rintro k st k0 k1 ⟨v, w, rfl, hv, hw⟩
    have e := hc k (by omega) k1
    obtain ⟨i, i0, i1, ei⟩ := hv.2
    obtain ⟨j, j0, j1, ej⟩ := hw.2
    have ei2 := hc i i0 (by omega)
    have ej2 := hc j j0 (by omega)
    rw [ez] at ei ej
    have s1 := hv.s (by omega)
    have s2 := hw.s (by omega)
    rw [ez] at s1 s2
    refine ⟨(iZ (if N (3 * k + 1) < v then N (3 * k + 1) else v), iZ (if w < N (3 * k + 1) then N (3 * k + 1) else w), iZ (k + 1)), ?_, _, _, rfl, s1, s2⟩
    simp (disch := omega) only [bX3_spanY_14, S_size, c_y hm hn.2 (k := k) (by omega) k1, gd_true, gd_dec, lt_def, bind_s, isb_0, isb_1, iZ_add, iZ_sub, iZ_mul, iZ_neg, lZ_add, lZ_sub, lZ_mul, iZ_lt, iZ_le, iZ_eq, lZ_lt, lZ_le, lZ_eq, iZ_64, iZ_N, inb_Z, if_pos, if_neg, ↓reduceIte, Bool.true_eq_false, Bool.false_eq_true, li0, li1, li2, li3, li4, li5, li6, li9, li10, li16, li20, li23, li24, li25, li31, li33, li44, li48, li49, li50, li51, li57, li59, li60, li63, li69, li70, li71, li72, li74, li99, li100, li119, li126, li250, li296, li297, li298, li299, li300, li301, li302, li303, li606, li1515, li1818, li16384, li1048576, li2147483647, li10000, lj0, lj1, lj10000]
    by_cases q1 : N (3 * k + 1) < v <;> by_cases q2 : w < N (3 * k + 1) <;> simp only [q1, q2, ↓reduceIte]) (by
    rintro st ⟨v, w, rfl, hv, hw⟩
    refine ⟨(iZ v, iZ w), ?_, v, w, rfl, hv, hw⟩
    simp (disch := omega) only [bX3_spanY_14, S_size, gd_true, gd_dec, lt_def, bind_s, isb_0, isb_1, iZ_add, iZ_sub, iZ_mul, iZ_neg, lZ_add, lZ_sub, lZ_mul, iZ_lt, iZ_le, iZ_eq, lZ_lt, lZ_le, lZ_eq, iZ_64, iZ_N, inb_Z, if_pos, if_neg, ↓reduceIte, Bool.true_eq_false, Bool.false_eq_true, li0, li1, li2, li3, li4, li5, li6, li9, li10, li16, li20, li23, li24, li25, li31, li33, li44, li48, li49, li50, li51, li57, li59, li60, li63, li69, li70, li71, li72, li74, li99, li100, li119, li126, li250, li296, li297, li298, li299, li300, li301, li302, li303, li606, li1515, li1818, li16384, li1048576, li2147483647, li10000, lj0, lj1, lj10000]) (s := (iZ (N (3 * 0 + 1)), iZ (N (3 * 0 + 1)), iZ 1)) ⟨N (3 * 0 + 1), N (3 * 0 + 1), rfl, by rw [← ez]; exact IsLo.one _, by rw [← ez]; exact IsHi.one _⟩
  refine ⟨v, w, h2, h3, ?_⟩
  unfold fX3_spanY lX3_spanY_14
  have q := c_y (s := iZ n) (K := K) hm hn.2 (k := 0) (by omega) (by omega)
  rw [li0, q, bind_s, bind_s]
  have e : lp (bX3_spanY_14 (m, iZ n, K)) (iZ (N (3 * 0 + 1)), iZ (N (3 * 0 + 1)), 1) = some (iZ v, iZ w) := h1
  rw [e]
  simp (disch := omega) only [gd_true, gd_dec, lt_def, bind_s, isb_0, isb_1, iZ_add, iZ_sub, iZ_mul, iZ_neg, lZ_add, lZ_sub, lZ_mul, iZ_lt, iZ_le, iZ_eq, lZ_lt, lZ_le, lZ_eq, iZ_64, iZ_N, inb_Z, if_pos, if_neg, ↓reduceIte, Bool.true_eq_false, Bool.false_eq_true, li0, li1, li2, li3, li4, li5, li6, li9, li10, li16, li20, li23, li24, li25, li31, li33, li44, li48, li49, li50, li51, li57, li59, li60, li63, li69, li70, li71, li72, li74, li99, li100, li119, li126, li250, li296, li297, li298, li299, li300, li301, li302, li303, li606, li1515, li1818, li16384, li1048576, li2147483647, li10000, lj0, lj1, lj10000]
end F1
-- kept lengths
noncomputable def lnF (N : Int → Int) (K : Int32) (j : Int) : Int := if hb K j then rt (10000 * sqD N (pv K j) j) else 0
theorem c_length {m : Nat → Int32} {n : Int} {N : Int → Int} {K : Int32} (hm : Row m n N) (hc : Crd n N) (M : MK n K) : fX3_keptLength (m, iZ n, K) = some (iZ (su (lnF N K) 1 n)) := by
  have hn := M.1
  unfold fX3_keptLength lX3_keptLength_4
  have e : lp (bX3_keptLength_4 (m, iZ n, K)) (0, 1) = some (iZ (su (lnF N K) 1 n)) := by
    refine lp_fold (fun k => (iZ (su (lnF N K) 1 k), iZ k)) (i := 1) (n := n) (by omega) (fun k k0 k1 => ?_) ?_
    · rw [su_s _ k0]
      cases hk : hb K k with
      | false =>
        have e : lnF N K k = 0 := by unfold lnF; rw [hk]; rfl
        simp (disch := omega) only [bX3_keptLength_4, S_size, c_kept, bi_z, hk, e, Int.add_zero, gd_true, gd_dec, lt_def, bind_s, isb_0, isb_1, iZ_add, iZ_sub, iZ_mul, iZ_neg, lZ_add, lZ_sub, lZ_mul, iZ_lt, iZ_le, iZ_eq, lZ_lt, lZ_le, lZ_eq, iZ_64, iZ_N, inb_Z, if_pos, if_neg, ↓reduceIte, Bool.true_eq_false, Bool.false_eq_true, li0, li1, li2, li3, li4, li5, li6, li9, li10, li16, li20, li23, li24, li25, li31, li33, li44, li48, li49, li50, li51, li57, li59, li60, li63, li69, li70, li71, li72, li74, li99, li100, li119, li126, li250, li296, li297, li298, li299, li300, li301, li302, li303, li606, li1515, li1818, li16384, li1048576, li2147483647, li10000, lj0, lj1, lj10000]
      | true =>
        have J := pv_is M (show 0 < k by omega)
        have b := sqD_b hc (a := pv K k) (b := k) J.2.1 (by have := J.1; omega) (by omega) k1
        have e : lnF N K k = rt (10000 * sqD N (pv K k) k) := by unfold lnF; rw [hk]; rfl
        have cr := (c_root (v := 10000 * sqD N (pv K k) k) (by omega) (by omega)).1
        simp (disch := omega) only [bX3_keptLength_4, S_size, c_kept, bi_z, hk, e, c_before (show k ≤ 24 by omega) J, c_sq hm hc hn.2 J.2.1 (show pv K k < n by have := J.1; omega) (show 0 ≤ k by omega) k1, cr, gd_true, gd_dec, lt_def, bind_s, isb_0, isb_1, iZ_add, iZ_sub, iZ_mul, iZ_neg, lZ_add, lZ_sub, lZ_mul, iZ_lt, iZ_le, iZ_eq, lZ_lt, lZ_le, lZ_eq, iZ_64, iZ_N, inb_Z, if_pos, if_neg, ↓reduceIte, Bool.true_eq_false, Bool.false_eq_true, li0, li1, li2, li3, li4, li5, li6, li9, li10, li16, li20, li23, li24, li25, li31, li33, li44, li48, li49, li50, li51, li57, li59, li60, li63, li69, li70, li71, li72, li74, li99, li100, li119, li126, li250, li296, li297, li298, li299, li300, li301, li302, li303, li606, li1515, li1818, li16384, li1048576, li2147483647, li10000, lj0, lj1, lj10000]
    · simp (disch := omega) only [bX3_keptLength_4, S_size, gd_true, gd_dec, lt_def, bind_s, isb_0, isb_1, iZ_add, iZ_sub, iZ_mul, iZ_neg, lZ_add, lZ_sub, lZ_mul, iZ_lt, iZ_le, iZ_eq, lZ_lt, lZ_le, lZ_eq, iZ_64, iZ_N, inb_Z, if_pos, if_neg, ↓reduceIte, Bool.true_eq_false, Bool.false_eq_true, li0, li1, li2, li3, li4, li5, li6, li9, li10, li16, li20, li23, li24, li25, li31, li33, li44, li48, li49, li50, li51, li57, li59, li60, li63, li69, li70, li71, li72, li74, li99, li100, li119, li126, li250, li296, li297, li298, li299, li300, li301, li302, li303, li606, li1515, li1818, li16384, li1048576, li2147483647, li10000, lj0, lj1, lj10000]
  rw [e]
  rfl
-- sharp joins
noncomputable def jnF (N : Int → Int) (K : Int32) (lim k : Int) : Int := if hb K k then bi (shB N (pv K k) k (nx K k) lim) else 0
theorem c_joins {m : Nat → Int32} {n : Int} {N : Int → Int} {K : Int32} (hm : Row m n N) (hc : Crd n N) (M : MK n K) {lim : Int} (l0 : 0 ≤ lim) (l1 : lim ≤ 100) : fX3_sharpJoins (iZ lim) (m, iZ n, K) = some (iZ (su (jnF N K lim) 1 (n - 1))) := by
  have hn := M.1
  unfold fX3_sharpJoins lX3_sharpJoins_4
  have e : lp (bX3_sharpJoins_4 (iZ lim) (m, iZ n, K)) (0, 1) = some (iZ (su (jnF N K lim) 1 (n - 1))) := by
    refine lp_fold (fun k => (iZ (su (jnF N K lim) 1 k), iZ k)) (i := 1) (n := n - 1) (by omega) (fun k k0 k1 => ?_) ?_
    · rw [su_s _ k0]
      cases hk : hb K k with
      | false =>
        have e : jnF N K lim k = 0 := by unfold jnF; rw [hk]; rfl
        simp (disch := omega) only [bX3_sharpJoins_4, S_size, c_kept, bi_z, hk, e, Int.add_zero, gd_true, gd_dec, lt_def, bind_s, isb_0, isb_1, iZ_add, iZ_sub, iZ_mul, iZ_neg, lZ_add, lZ_sub, lZ_mul, iZ_lt, iZ_le, iZ_eq, lZ_lt, lZ_le, lZ_eq, iZ_64, iZ_N, inb_Z, if_pos, if_neg, ↓reduceIte, Bool.true_eq_false, Bool.false_eq_true, li0, li1, li2, li3, li4, li5, li6, li9, li10, li16, li20, li23, li24, li25, li31, li33, li44, li48, li49, li50, li51, li57, li59, li60, li63, li69, li70, li71, li72, li74, li99, li100, li119, li126, li250, li296, li297, li298, li299, li300, li301, li302, li303, li606, li1515, li1818, li16384, li1048576, li2147483647, li10000, lj0, lj1, lj10000]
      | true =>
        have J := pv_is M (show 0 < k by omega)
        obtain ⟨I, i1⟩ := nx_is M (show 0 ≤ k by omega) k1
        have e : jnF N K lim k = bi (shB N (pv K k) k (nx K k) lim) := by unfold jnF; rw [hk]; rfl
        have cs := c_sharp (s := iZ n) (K := K) hm hc hn.2 (a := pv K k) (k := k) (b := nx K k) J.2.1 (by have := J.1; omega) (by omega) (by omega) (by have := I.1; omega) (by omega) l0 l1
        simp (disch := omega) only [bX3_sharpJoins_4, S_size, c_kept, bi_z, hk, e, c_before (show k ≤ 24 by omega) J, c_behind hn.2 (show 0 ≤ k by omega) I (by omega), cs, gd_true, gd_dec, lt_def, bind_s, isb_0, isb_1, iZ_add, iZ_sub, iZ_mul, iZ_neg, lZ_add, lZ_sub, lZ_mul, iZ_lt, iZ_le, iZ_eq, lZ_lt, lZ_le, lZ_eq, iZ_64, iZ_N, inb_Z, if_pos, if_neg, ↓reduceIte, Bool.true_eq_false, Bool.false_eq_true, li0, li1, li2, li3, li4, li5, li6, li9, li10, li16, li20, li23, li24, li25, li31, li33, li44, li48, li49, li50, li51, li57, li59, li60, li63, li69, li70, li71, li72, li74, li99, li100, li119, li126, li250, li296, li297, li298, li299, li300, li301, li302, li303, li606, li1515, li1818, li16384, li1048576, li2147483647, li10000, lj0, lj1, lj10000]
        cases shB N (pv K k) k (nx K k) lim with
        | false => simp (disch := omega) only [bi_if, Int.add_zero, gd_true, gd_dec, lt_def, bind_s, isb_0, isb_1, iZ_add, iZ_sub, iZ_mul, iZ_neg, lZ_add, lZ_sub, lZ_mul, iZ_lt, iZ_le, iZ_eq, lZ_lt, lZ_le, lZ_eq, iZ_64, iZ_N, inb_Z, if_pos, if_neg, ↓reduceIte, Bool.true_eq_false, Bool.false_eq_true, li0, li1, li2, li3, li4, li5, li6, li9, li10, li16, li20, li23, li24, li25, li31, li33, li44, li48, li49, li50, li51, li57, li59, li60, li63, li69, li70, li71, li72, li74, li99, li100, li119, li126, li250, li296, li297, li298, li299, li300, li301, li302, li303, li606, li1515, li1818, li16384, li1048576, li2147483647, li10000, lj0, lj1, lj10000]
        | true => simp (disch := omega) only [bi_if, gd_true, gd_dec, lt_def, bind_s, isb_0, isb_1, iZ_add, iZ_sub, iZ_mul, iZ_neg, lZ_add, lZ_sub, lZ_mul, iZ_lt, iZ_le, iZ_eq, lZ_lt, lZ_le, lZ_eq, iZ_64, iZ_N, inb_Z, if_pos, if_neg, ↓reduceIte, Bool.true_eq_false, Bool.false_eq_true, li0, li1, li2, li3, li4, li5, li6, li9, li10, li16, li20, li23, li24, li25, li31, li33, li44, li48, li49, li50, li51, li57, li59, li60, li63, li69, li70, li71, li72, li74, li99, li100, li119, li126, li250, li296, li297, li298, li299, li300, li301, li302, li303, li606, li1515, li1818, li16384, li1048576, li2147483647, li10000, lj0, lj1, lj10000]
    · simp (disch := omega) only [bX3_sharpJoins_4, S_size, gd_true, gd_dec, lt_def, bind_s, isb_0, isb_1, iZ_add, iZ_sub, iZ_mul, iZ_neg, lZ_add, lZ_sub, lZ_mul, iZ_lt, iZ_le, iZ_eq, lZ_lt, lZ_le, lZ_eq, iZ_64, iZ_N, inb_Z, if_pos, if_neg, ↓reduceIte, Bool.true_eq_false, Bool.false_eq_true, li0, li1, li2, li3, li4, li5, li6, li9, li10, li16, li20, li23, li24, li25, li31, li33, li44, li48, li49, li50, li51, li57, li59, li60, li63, li69, li70, li71, li72, li74, li99, li100, li119, li126, li250, li296, li297, li298, li299, li300, li301, li302, li303, li606, li1515, li1818, li16384, li1048576, li2147483647, li10000, lj0, lj1, lj10000]
  rw [e]
  rfl
-- crossings
theorem op_ev2 (x y : Int) : ((if 0 ≤ x then (if x ≤ 0 then some (iZ 0) else if 0 ≤ y then some (iZ 0) else some (iZ 1)) else (if 0 < y then some (iZ 1) else some (iZ 0))) : Option Int32) = some (iZ (bi (opB x y))) := by
  rw [← op_ev]
  by_cases h : 0 ≤ x
  · rw [if_pos h, if_pos h]
  · rw [if_neg h, if_neg h, if_pos (show x ≤ 0 by omega)]
theorem c_apart {m : Nat → Int32} {n : Int} {N : Int → Int} {s K : Int32} (hm : Row m n N) (hc : Crd n N) (hn : n ≤ 24) {a b i j : Int} (a0 : 0 ≤ a) (a1 : a < n) (b0 : 0 ≤ b) (b1 : b < n) (i0 : 0 ≤ i) (i1 : i < n) (j0 : 0 ≤ j) (j1 : j < n) : fX3_areApart (iZ a) (iZ b) (iZ i) (iZ j) (m, s, K) = some (iZ (bi (opB (sdD N a b i) (sdD N a b j)))) := by
  have h1 := sdD_b hc a0 a1 b0 b1 i0 i1
  have h2 := sdD_b hc a0 a1 b0 b1 j0 j1
  unfold fX3_areApart
  simp (disch := omega) only [c_side hm hc hn a0 a1 b0 b1 i0 i1, c_side hm hc hn a0 a1 b0 b1 j0 j1, gd_true, gd_dec, lt_def, bind_s, isb_0, isb_1, iZ_add, iZ_sub, iZ_mul, iZ_neg, lZ_add, lZ_sub, lZ_mul, iZ_lt, iZ_le, iZ_eq, lZ_lt, lZ_le, lZ_eq, iZ_64, iZ_N, inb_Z, if_pos, if_neg, ↓reduceIte, Bool.true_eq_false, Bool.false_eq_true, li0, li1, li2, li3, li4, li5, li6, li9, li10, li16, li20, li23, li24, li25, li31, li33, li44, li48, li49, li50, li51, li57, li59, li60, li63, li69, li70, li71, li72, li74, li99, li100, li119, li126, li250, li296, li297, li298, li299, li300, li301, li302, li303, li606, li1515, li1818, li16384, li1048576, li2147483647, li10000, lj0, lj1, lj10000]
  rw [op_ev2, bind_s, bi_b]
  rfl
theorem c_cross {m : Nat → Int32} {n : Int} {N : Int → Int} {s K : Int32} (hm : Row m n N) (hc : Crd n N) (hn : n ≤ 24) {a b i j : Int} (a0 : 0 ≤ a) (a1 : a < n) (b0 : 0 ≤ b) (b1 : b < n) (i0 : 0 ≤ i) (i1 : i < n) (j0 : 0 ≤ j) (j1 : j < n) : fX3_cross (iZ a) (iZ b) (iZ i) (iZ j) (m, s, K) = some (iZ (bi (crB N a b i j))) := by
  unfold fX3_cross crB
  rw [c_apart hm hc hn a0 a1 b0 b1 i0 i1 j0 j1, c_apart hm hc hn i0 i1 j0 j1 a0 a1 b0 b1]
  cases opB (sdD N a b i) (sdD N a b j) <;> cases opB (sdD N i j a) (sdD N i j b) <;> rfl
noncomputable def ciF (N : Int → Int) (K : Int32) (a b c : Int) : Int := if hb K c then bi (crB N a b c (nx K c)) else 0
noncomputable def csF (N : Int → Int) (K : Int32) (n b : Int) : Int := if hb K b then su (ciF N K (pv K b) b) (b + 1) (n - 1) else 0
theorem c_behindC {m : Nat → Int32} {n : Int} {N : Int → Int} {K : Int32} (hm : Row m n N) (hc : Crd n N) (M : MK n K) {b : Int} (b0 : 0 < b) (b1 : b < n) : fX3_crossingsBehind (iZ b) (m, iZ n, K) = some (iZ (su (ciF N K (pv K b) b) (b + 1) (n - 1))) := by
  have hn := M.1
  have J := pv_is M b0
  have jb := J.1
  unfold fX3_crossingsBehind lX3_crossingsBehind_13
  rw [c_before (by omega) J, bind_s]
  simp (disch := omega) only [gd_true, gd_dec, lt_def, bind_s, isb_0, isb_1, iZ_add, iZ_sub, iZ_mul, iZ_neg, lZ_add, lZ_sub, lZ_mul, iZ_lt, iZ_le, iZ_eq, lZ_lt, lZ_le, lZ_eq, iZ_64, iZ_N, inb_Z, if_pos, if_neg, ↓reduceIte, Bool.true_eq_false, Bool.false_eq_true, li0, li1, li2, li3, li4, li5, li6, li9, li10, li16, li20, li23, li24, li25, li31, li33, li44, li48, li49, li50, li51, li57, li59, li60, li63, li69, li70, li71, li72, li74, li99, li100, li119, li126, li250, li296, li297, li298, li299, li300, li301, li302, li303, li606, li1515, li1818, li16384, li1048576, li2147483647, li10000, lj0, lj1, lj10000]
  by_cases hlast : n - 1 ≤ b + 1
  · have e : lp (bX3_crossingsBehind_13 (iZ b) (iZ (pv K b)) (m, iZ n, K)) (iZ 0, iZ (b + 1)) = some (iZ 0) := by
      refine lp_out ?_
      simp (disch := omega) only [bX3_crossingsBehind_13, S_size, gd_true, gd_dec, lt_def, bind_s, isb_0, isb_1, iZ_add, iZ_sub, iZ_mul, iZ_neg, lZ_add, lZ_sub, lZ_mul, iZ_lt, iZ_le, iZ_eq, lZ_lt, lZ_le, lZ_eq, iZ_64, iZ_N, inb_Z, if_pos, if_neg, ↓reduceIte, Bool.true_eq_false, Bool.false_eq_true, li0, li1, li2, li3, li4, li5, li6, li9, li10, li16, li20, li23, li24, li25, li31, li33, li44, li48, li49, li50, li51, li57, li59, li60, li63, li69, li70, li71, li72, li74, li99, li100, li119, li126, li250, li296, li297, li298, li299, li300, li301, li302, li303, li606, li1515, li1818, li16384, li1048576, li2147483647, li10000, lj0, lj1, lj10000]
    rw [e, su_e _ hlast]
    rfl
  · have e : lp (bX3_crossingsBehind_13 (iZ b) (iZ (pv K b)) (m, iZ n, K)) (iZ (su (ciF N K (pv K b) b) (b + 1) (b + 1)), iZ (b + 1)) = some (iZ (su (ciF N K (pv K b) b) (b + 1) (n - 1))) := by
      refine lp_fold (fun k => (iZ (su (ciF N K (pv K b) b) (b + 1) k), iZ k)) (i := b + 1) (n := n - 1) (by omega) (fun k k0 k1 => ?_) ?_
      · rw [su_s _ k0]
        cases hk : hb K k with
        | false =>
          have e : ciF N K (pv K b) b k = 0 := by unfold ciF; rw [hk]; rfl
          simp (disch := omega) only [bX3_crossingsBehind_13, S_size, c_kept, bi_z, hk, e, Int.add_zero, gd_true, gd_dec, lt_def, bind_s, isb_0, isb_1, iZ_add, iZ_sub, iZ_mul, iZ_neg, lZ_add, lZ_sub, lZ_mul, iZ_lt, iZ_le, iZ_eq, lZ_lt, lZ_le, lZ_eq, iZ_64, iZ_N, inb_Z, if_pos, if_neg, ↓reduceIte, Bool.true_eq_false, Bool.false_eq_true, li0, li1, li2, li3, li4, li5, li6, li9, li10, li16, li20, li23, li24, li25, li31, li33, li44, li48, li49, li50, li51, li57, li59, li60, li63, li69, li70, li71, li72, li74, li99, li100, li119, li126, li250, li296, li297, li298, li299, li300, li301, li302, li303, li606, li1515, li1818, li16384, li1048576, li2147483647, li10000, lj0, lj1, lj10000]
        | true =>
          obtain ⟨I, i1⟩ := nx_is M (show 0 ≤ k by omega) k1
          have e : ciF N K (pv K b) b k = bi (crB N (pv K b) b k (nx K k)) := by unfold ciF; rw [hk]; rfl
          have cs := c_cross (s := iZ n) (K := K) hm hc hn.2 (a := pv K b) (b := b) (i := k) (j := nx K k) J.2.1 (by omega) (by omega) (by omega) (by omega) (by omega) (by have := I.1; omega) (by omega)
          simp (disch := omega) only [bX3_crossingsBehind_13, S_size, c_kept, bi_z, hk, e, c_behind hn.2 (show 0 ≤ k by omega) I (by omega), cs, gd_true, gd_dec, lt_def, bind_s, isb_0, isb_1, iZ_add, iZ_sub, iZ_mul, iZ_neg, lZ_add, lZ_sub, lZ_mul, iZ_lt, iZ_le, iZ_eq, lZ_lt, lZ_le, lZ_eq, iZ_64, iZ_N, inb_Z, if_pos, if_neg, ↓reduceIte, Bool.true_eq_false, Bool.false_eq_true, li0, li1, li2, li3, li4, li5, li6, li9, li10, li16, li20, li23, li24, li25, li31, li33, li44, li48, li49, li50, li51, li57, li59, li60, li63, li69, li70, li71, li72, li74, li99, li100, li119, li126, li250, li296, li297, li298, li299, li300, li301, li302, li303, li606, li1515, li1818, li16384, li1048576, li2147483647, li10000, lj0, lj1, lj10000]
          cases crB N (pv K b) b k (nx K k) with
          | false => simp (disch := omega) only [bi_if, Int.add_zero, gd_true, gd_dec, lt_def, bind_s, isb_0, isb_1, iZ_add, iZ_sub, iZ_mul, iZ_neg, lZ_add, lZ_sub, lZ_mul, iZ_lt, iZ_le, iZ_eq, lZ_lt, lZ_le, lZ_eq, iZ_64, iZ_N, inb_Z, if_pos, if_neg, ↓reduceIte, Bool.true_eq_false, Bool.false_eq_true, li0, li1, li2, li3, li4, li5, li6, li9, li10, li16, li20, li23, li24, li25, li31, li33, li44, li48, li49, li50, li51, li57, li59, li60, li63, li69, li70, li71, li72, li74, li99, li100, li119, li126, li250, li296, li297, li298, li299, li300, li301, li302, li303, li606, li1515, li1818, li16384, li1048576, li2147483647, li10000, lj0, lj1, lj10000]
          | true => simp (disch := omega) only [bi_if, gd_true, gd_dec, lt_def, bind_s, isb_0, isb_1, iZ_add, iZ_sub, iZ_mul, iZ_neg, lZ_add, lZ_sub, lZ_mul, iZ_lt, iZ_le, iZ_eq, lZ_lt, lZ_le, lZ_eq, iZ_64, iZ_N, inb_Z, if_pos, if_neg, ↓reduceIte, Bool.true_eq_false, Bool.false_eq_true, li0, li1, li2, li3, li4, li5, li6, li9, li10, li16, li20, li23, li24, li25, li31, li33, li44, li48, li49, li50, li51, li57, li59, li60, li63, li69, li70, li71, li72, li74, li99, li100, li119, li126, li250, li296, li297, li298, li299, li300, li301, li302, li303, li606, li1515, li1818, li16384, li1048576, li2147483647, li10000, lj0, lj1, lj10000]
      · simp (disch := omega) only [bX3_crossingsBehind_13, S_size, gd_true, gd_dec, lt_def, bind_s, isb_0, isb_1, iZ_add, iZ_sub, iZ_mul, iZ_neg, lZ_add, lZ_sub, lZ_mul, iZ_lt, iZ_le, iZ_eq, lZ_lt, lZ_le, lZ_eq, iZ_64, iZ_N, inb_Z, if_pos, if_neg, ↓reduceIte, Bool.true_eq_false, Bool.false_eq_true, li0, li1, li2, li3, li4, li5, li6, li9, li10, li16, li20, li23, li24, li25, li31, li33, li44, li48, li49, li50, li51, li57, li59, li60, li63, li69, li70, li71, li72, li74, li99, li100, li119, li126, li250, li296, li297, li298, li299, li300, li301, li302, li303, li606, li1515, li1818, li16384, li1048576, li2147483647, li10000, lj0, lj1, lj10000]
    rw [su_0] at e
    rw [e]
    rfl
theorem c_crossings {m : Nat → Int32} {n : Int} {N : Int → Int} {K : Int32} (hm : Row m n N) (hc : Crd n N) (M : MK n K) : fX3_countCrossings (m, iZ n, K) = some (iZ (su (csF N K n) 1 n)) := by
  have hn := M.1
  unfold fX3_countCrossings lX3_countCrossings_4
  have e : lp (bX3_countCrossings_4 (m, iZ n, K)) (0, 1) = some (iZ (su (csF N K n) 1 n)) := by
    refine lp_fold (fun k => (iZ (su (csF N K n) 1 k), iZ k)) (i := 1) (n := n) (by omega) (fun k k0 k1 => ?_) ?_
    · rw [su_s _ k0]
      cases hk : hb K k with
      | false =>
        have e : csF N K n k = 0 := by unfold csF; rw [hk]; rfl
        simp (disch := omega) only [bX3_countCrossings_4, S_size, c_kept, bi_z, hk, e, Int.add_zero, gd_true, gd_dec, lt_def, bind_s, isb_0, isb_1, iZ_add, iZ_sub, iZ_mul, iZ_neg, lZ_add, lZ_sub, lZ_mul, iZ_lt, iZ_le, iZ_eq, lZ_lt, lZ_le, lZ_eq, iZ_64, iZ_N, inb_Z, if_pos, if_neg, ↓reduceIte, Bool.true_eq_false, Bool.false_eq_true, li0, li1, li2, li3, li4, li5, li6, li9, li10, li16, li20, li23, li24, li25, li31, li33, li44, li48, li49, li50, li51, li57, li59, li60, li63, li69, li70, li71, li72, li74, li99, li100, li119, li126, li250, li296, li297, li298, li299, li300, li301, li302, li303, li606, li1515, li1818, li16384, li1048576, li2147483647, li10000, lj0, lj1, lj10000]
      | true =>
        have e : csF N K n k = su (ciF N K (pv K k) k) (k + 1) (n - 1) := by unfold csF; rw [hk]; rfl
        simp (disch := omega) only [bX3_countCrossings_4, S_size, c_kept, bi_z, hk, e, c_behindC hm hc M (show 0 < k by omega) k1, gd_true, gd_dec, lt_def, bind_s, isb_0, isb_1, iZ_add, iZ_sub, iZ_mul, iZ_neg, lZ_add, lZ_sub, lZ_mul, iZ_lt, iZ_le, iZ_eq, lZ_lt, lZ_le, lZ_eq, iZ_64, iZ_N, inb_Z, if_pos, if_neg, ↓reduceIte, Bool.true_eq_false, Bool.false_eq_true, li0, li1, li2, li3, li4, li5, li6, li9, li10, li16, li20, li23, li24, li25, li31, li33, li44, li48, li49, li50, li51, li57, li59, li60, li63, li69, li70, li71, li72, li74, li99, li100, li119, li126, li250, li296, li297, li298, li299, li300, li301, li302, li303, li606, li1515, li1818, li16384, li1048576, li2147483647, li10000, lj0, lj1, lj10000]
    · simp (disch := omega) only [bX3_countCrossings_4, S_size, gd_true, gd_dec, lt_def, bind_s, isb_0, isb_1, iZ_add, iZ_sub, iZ_mul, iZ_neg, lZ_add, lZ_sub, lZ_mul, iZ_lt, iZ_le, iZ_eq, lZ_lt, lZ_le, lZ_eq, iZ_64, iZ_N, inb_Z, if_pos, if_neg, ↓reduceIte, Bool.true_eq_false, Bool.false_eq_true, li0, li1, li2, li3, li4, li5, li6, li9, li10, li16, li20, li23, li24, li25, li31, li33, li44, li48, li49, li50, li51, li57, li59, li60, li63, li69, li70, li71, li72, li74, li99, li100, li119, li126, li250, li296, li297, li298, li299, li300, li301, li302, li303, li606, li1515, li1818, li16384, li1048576, li2147483647, li10000, lj0, lj1, lj10000]
  rw [e]
  rfl
