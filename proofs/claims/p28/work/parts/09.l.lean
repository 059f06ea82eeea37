section
/-! baking: only the kept points stay -/
theorem bi_tr : bi true = 1 := rfl
theorem bi_fa : bi false = 0 := rfl
def cK (K : Int32) (k : Int) : Int := su (onz K) 0 k
theorem cK_0 (K : Int32) : cK K 0 = 0 := su_0 _ _
theorem cK_y {K : Int32} {k : Int} (h0 : 0 ≤ k) (h : hb K k = true) : cK K (k + 1) = cK K k + 1 := by
  unfold cK
  rw [su_s _ h0]
  show _ + bi (hb K k) = _
  rw [h]
  rfl
theorem cK_n {K : Int32} {k : Int} (h0 : 0 ≤ k) (h : hb K k = false) : cK K (k + 1) = cK K k := by
  unfold cK
  rw [su_s _ h0]
  show _ + bi (hb K k) = _
  rw [h]
  exact Int.add_zero _
theorem cK_le (K : Int32) {a b : Int} (h0 : 0 ≤ a) (h : a ≤ b) : cK K a ≤ cK K b ∧ cK K b - cK K a ≤ b - a := by
  have e := su_split (onz K) h0 h
  have := su_bd (onz K) 1 h (fun i _ _ => onz_b K i)
  unfold cK
  omega
theorem cK_b (K : Int32) {k : Int} (h0 : 0 ≤ k) : 0 ≤ cK K k ∧ cK K k ≤ k := by
  have := cK_le K (Int.le_refl 0) h0
  rw [cK_0] at this
  omega
theorem cK_lt {K : Int32} {i k : Int} (h0 : 0 ≤ i) (h : hb K i = true) (hik : i < k) : cK K i < cK K k := by
  have := cK_y h0 h
  have := cK_le K (a := i + 1) (b := k) (by omega) (by omega)
  omega
theorem cK_ex (K : Int32) {r : Int} (r0 : 0 ≤ r) : ∀ n : Nat, r < cK K n → ∃ k : Int, 0 ≤ k ∧ k < n ∧ hb K k = true ∧ cK K k = r
  | 0, h => by
    have : cK K ((0 : Nat) : Int) = 0 := cK_0 K
    omega
  | n + 1, h => by
    cases hk : hb K n with
    | true =>
      have c1 := cK_y (K := K) (k := (n : Int)) (by omega) hk
      have e : (((n + 1 : Nat)) : Int) = (n : Int) + 1 := by omega
      rw [e] at h
      by_cases q : r < cK K n
      · obtain ⟨k, k0, k1, k2, k3⟩ := cK_ex K r0 n q
        exact ⟨k, k0, by omega, k2, k3⟩
      · exact ⟨n, by omega, by omega, hk, by omega⟩
    | false =>
      have c1 := cK_n (K := K) (k := (n : Int)) (by omega) hk
      have e : (((n + 1 : Nat)) : Int) = (n : Int) + 1 := by omega
      rw [e] at h
      obtain ⟨k, k0, k1, k2, k3⟩ := cK_ex K r0 n (by omega)
      exact ⟨k, k0, by omega, k2, k3⟩
def SelN (K : Int32) (n : Int) (N M : Int → Int) : Prop := ∀ i w : Int, 0 ≤ i → i < n → hb K i = true → 0 ≤ w → w < 3 → M (3 * cK K i + w) = N (3 * i + w)
section L1
variable {m : Nat → Int32} {n : Int} {N : Int → Int} {s K : Int32}
theorem x_at {k v : Int} (h0 : 0 ≤ k) (h1 : k < 24) (e : m (3 * k).toNat = iZ v) : fX3_x (iZ k) (m, s, K) = some (iZ v) := by
  unfold fX3_x
  simp (disch := omega) only [S_numbers, e, gd_true, gd_dec, lt_def, bind_s, isb_0, isb_1, iZ_add, iZ_sub, iZ_mul, iZ_neg, lZ_add, lZ_sub, lZ_mul, iZ_lt, iZ_le, iZ_eq, lZ_lt, lZ_le, lZ_eq, iZ_64, iZ_N, inb_Z, if_pos, if_neg, ↓reduceIte, Bool.true_eq_false, Bool.false_eq_true, li0, li1, li2, li3, li4, li5, li6, li9, li10, li16, li20, li23, li24, li25, li31, li33, li44, li48, li49, li50, li51, li57, li59, li60, li63, li69, li70, li71, li72, li74, li99, li100, li119, li126, li250, li296, li297, li298, li299, li300, li301, li302, li303, li606, li1515, li1818, li16384, li1048576, li2147483647, li10000, lj0, lj1, lj10000]
theorem y_at {k v : Int} (h0 : 0 ≤ k) (h1 : k < 24) (e : m (3 * k + 1).toNat = iZ v) : fX3_y (iZ k) (m, s, K) = some (iZ v) := by
  unfold fX3_y
  simp (disch := omega) only [S_numbers, e, gd_true, gd_dec, lt_def, bind_s, isb_0, isb_1, iZ_add, iZ_sub, iZ_mul, iZ_neg, lZ_add, lZ_sub, lZ_mul, iZ_lt, iZ_le, iZ_eq, lZ_lt, lZ_le, lZ_eq, iZ_64, iZ_N, inb_Z, if_pos, if_neg, ↓reduceIte, Bool.true_eq_false, Bool.false_eq_true, li0, li1, li2, li3, li4, li5, li6, li9, li10, li16, li20, li23, li24, li25, li31, li33, li44, li48, li49, li50, li51, li57, li59, li60, li63, li69, li70, li71, li72, li74, li99, li100, li119, li126, li250, li296, li297, li298, li299, li300, li301, li302, li303, li606, li1515, li1818, li16384, li1048576, li2147483647, li10000, lj0, lj1, lj10000]
theorem w_at {k v : Int} (h0 : 0 ≤ k) (h1 : k < 24) (e : m (3 * k + 2).toNat = iZ v) : fX3_width (iZ k) (m, s, K) = some (iZ v) := by
  unfold fX3_width
  simp (disch := omega) only [S_numbers, e, gd_true, gd_dec, lt_def, bind_s, isb_0, isb_1, iZ_add, iZ_sub, iZ_mul, iZ_neg, lZ_add, lZ_sub, lZ_mul, iZ_lt, iZ_le, iZ_eq, lZ_lt, lZ_le, lZ_eq, iZ_64, iZ_N, inb_Z, if_pos, if_neg, ↓reduceIte, Bool.true_eq_false, Bool.false_eq_true, li0, li1, li2, li3, li4, li5, li6, li9, li10, li16, li20, li23, li24, li25, li31, li33, li44, li48, li49, li50, li51, li57, li59, li60, li63, li69, li70, li71, li72, li74, li99, li100, li119, li126, li250, li296, li297, li298, li299, li300, li301, li302, li303, li606, li1515, li1818, li16384, li1048576, li2147483647, li10000, lj0, lj1, lj10000]
theorem c_unkept (hm : Row m n N) (hn : 0 ≤ n ∧ n ≤ 24) : ∃ m' : Nat → Int32, fX3_removeUnkept (m, iZ n, K) = some (m', iZ (cK K n), allK (cK K n)) ∧ ∀ i w : Int, 0 ≤ i → i < n → hb K i = true → 0 ≤ w → w < 3 → m' (3 * cK K i + w).toNat = iZ (N (3 * i + w)) := by
  obtain ⟨r, q1, m1, rfl, g⟩ := lp_up (f := bX3_removeUnkept_4) (fun k st => ∃ m' : Nat → Int32, st = (iZ (cK K k), iZ k, (m', iZ n, K)) ∧ (∀ i w : Int, 0 ≤ i → i < k → hb K i = true → 0 ≤ w → w < 3 → m' (3 * cK K i + w).toNat = iZ (N (3 * i + w))) ∧ ∀ j : Int, 3 * k ≤ j → j < 3 * n → m' j.toNat = iZ (N j)) (fun r => ∃ m' : Nat → Int32, r = (iZ (cK K n), (m', iZ n, K)) ∧ ∀ i w : Int, 0 ≤ i → i < n → hb K i = true → 0 ≤ w → w < 3 → m' (3 * cK K i + w).toNat = iZ (N (3 * i + w))) (i := 0) (n := n) hn.1 (by
    rintro k st k0 k1 ⟨m', rfl, a1, a2⟩
    have hk := c_kept (m := m') (s := iZ n) (K := K) (k := k) k0 (by omega)
    have cb := cK_b K k0
    cases hb9 : hb K k with
    | true =>
      rw [hb9] at hk
      have c2 := cK_y k0 hb9
      have e0 : m' (3 * k).toNat = iZ (N (3 * k)) := a2 _ (by omega) (by omega)
      have e1 : m' (3 * k + 1).toNat = iZ (N (3 * k + 1)) := a2 _ (by omega) (by omega)
      have e2 : m' (3 * k + 2).toNat = iZ (N (3 * k + 2)) := a2 _ (by omega) (by omega)
      have hx := x_at (s := iZ n) (K := K) k0 (by omega) e0
      have hy := y_at (s := iZ n) (K := K) k0 (by omega) e1
      have hw := w_at (s := iZ n) (K := K) k0 (by omega) e2
      have hp := c_putP (m := m') (s := iZ n) (K := K) (k := cK K k) (x := N (3 * k)) (y := N (3 * k + 1)) (w := N (3 * k + 2)) cb.1 (by omega)
      obtain ⟨p1, p2, p3⟩ := mup_3 (m := m') (p := 3 * cK K k) (x := N (3 * k)) (y := N (3 * k + 1)) (w := N (3 * k + 2)) (by omega)
      refine ⟨(iZ (cK K (k + 1)), iZ (k + 1), (mup m' (3 * cK K k) (N (3 * k)) (N (3 * k + 1)) (N (3 * k + 2)), iZ n, K)), ?_, _, rfl, fun i w i0 i1 hi w0 w1 => ?_, fun j j0 j1 => ?_⟩
      · rw [c2]
        simp (disch := omega) only [bX3_removeUnkept_4, S_size, hk, bi_tr, hx, hy, hw, hp, gd_true, gd_dec, lt_def, bind_s, isb_0, isb_1, iZ_add, iZ_sub, iZ_mul, iZ_neg, lZ_add, lZ_sub, lZ_mul, iZ_lt, iZ_le, iZ_eq, lZ_lt, lZ_le, lZ_eq, iZ_64, iZ_N, inb_Z, if_pos, if_neg, ↓reduceIte, Bool.true_eq_false, Bool.false_eq_true, li0, li1, li2, li3, li4, li5, li6, li9, li10, li16, li20, li23, li24, li25, li31, li33, li44, li48, li49, li50, li51, li57, li59, li60, li63, li69, li70, li71, li72, li74, li99, li100, li119, li126, li250, li296, li297, li298, li299, li300, li301, li302, li303, li606, li1515, li1818, li16384, li1048576, li2147483647, li10000, lj0, lj1, lj10000]
      · by_cases ek : i = k
        · subst ek
          by_cases w9 : w = 0
          · subst w9
            rw [Int.add_zero, Int.add_zero]
            exact p1
          · by_cases w8 : w = 1
            · subst w8
              exact p2
            · have : w = 2 := by omega
              subst this
              exact p3
        · have c3 := cK_lt i0 hi (show i < k by omega)
          have := cK_b K i0
          rw [mup_o (by omega) (by omega) (by omega)]
          exact a1 i w i0 (by omega) hi w0 w1
      · rw [mup_o (by omega) (by omega) (by omega)]
        exact a2 j (by omega) j1
    | false =>
      rw [hb9] at hk
      have c2 := cK_n k0 hb9
      refine ⟨(iZ (cK K (k + 1)), iZ (k + 1), (m', iZ n, K)), ?_, m', rfl, fun i w i0 i1 hi w0 w1 => ?_, fun j j0 j1 => a2 j (by omega) j1⟩
      · rw [c2]
        simp (disch := omega) only [bX3_removeUnkept_4, S_size, hk, bi_fa, gd_true, gd_dec, lt_def, bind_s, isb_0, isb_1, iZ_add, iZ_sub, iZ_mul, iZ_neg, lZ_add, lZ_sub, lZ_mul, iZ_lt, iZ_le, iZ_eq, lZ_lt, lZ_le, lZ_eq, iZ_64, iZ_N, inb_Z, if_pos, if_neg, ↓reduceIte, Bool.true_eq_false, Bool.false_eq_true, li0, li1, li2, li3, li4, li5, li6, li9, li10, li16, li20, li23, li24, li25, li31, li33, li44, li48, li49, li50, li51, li57, li59, li60, li63, li69, li70, li71, li72, li74, li99, li100, li119, li126, li250, li296, li297, li298, li299, li300, li301, li302, li303, li606, li1515, li1818, li16384, li1048576, li2147483647, li10000, lj0, lj1, lj10000]
      · have : i ≠ k := fun e => by rw [e, hb9] at hi; cases hi
        exact a1 i w i0 (by omega) hi w0 w1) (by
    rintro st ⟨m', rfl, a1, a2⟩
    refine ⟨(iZ (cK K n), (m', iZ n, K)), ?_, m', rfl, a1⟩
    simp (disch := omega) only [bX3_removeUnkept_4, S_size, gd_true, gd_dec, lt_def, bind_s, isb_0, isb_1, iZ_add, iZ_sub, iZ_mul, iZ_neg, lZ_add, lZ_sub, lZ_mul, iZ_lt, iZ_le, iZ_eq, lZ_lt, lZ_le, lZ_eq, iZ_64, iZ_N, inb_Z, if_pos, if_neg, ↓reduceIte, Bool.true_eq_false, Bool.false_eq_true, li0, li1, li2, li3, li4, li5, li6, li9, li10, li16, li20, li23, li24, li25, li31, li33, li44, li48, li49, li50, li51, li57, li59, li60, li63, li69, li70, li71, li72, li74, li99, li100, li119, li126, li250, li296, li297, li298, li299, li300, li301, li302, li303, li606, li1515, li1818, li16384, li1048576, li2147483647, li10000, lj0, lj1, lj10000]) (s := (iZ 0, iZ 0, (m, iZ n, K))) ⟨m, by rw [cK_0], fun i w i0 i1 => by omega, fun j a b => hm j (by omega) b⟩
  have hk := c_keepAll (m := m1) (n := cK K n) (K := K)
  refine ⟨m1, ?_, g⟩
  unfold fX3_removeUnkept lX3_removeUnkept_4
  rw [show ((0 : Int32), (0 : Int32), ((m, iZ n, K) : SS)) = (iZ 0, iZ 0, (m, iZ n, K)) from rfl, q1]
  simp (disch := omega) only [S_size, S_s_size, hk, gd_true, gd_dec, lt_def, bind_s, isb_0, isb_1, iZ_add, iZ_sub, iZ_mul, iZ_neg, lZ_add, lZ_sub, lZ_mul, iZ_lt, iZ_le, iZ_eq, lZ_lt, lZ_le, lZ_eq, iZ_64, iZ_N, inb_Z, if_pos, if_neg, ↓reduceIte, Bool.true_eq_false, Bool.false_eq_true, li0, li1, li2, li3, li4, li5, li6, li9, li10, li16, li20, li23, li24, li25, li31, li33, li44, li48, li49, li50, li51, li57, li59, li60, li63, li69, li70, li71, li72, li74, li99, li100, li119, li126, li250, li296, li297, li298, li299, li300, li301, li302, li303, li606, li1515, li1818, li16384, li1048576, li2147483647, li10000, lj0, lj1, lj10000]
end L1
theorem MK_all {n : Int} (h : 2 ≤ n ∧ n ≤ 24) : MK n (allK n) := by
  refine ⟨h, ?_, ?_, fun j j0 hj => ?_⟩
  · rw [hb_all (by omega) h.2 (by omega)]
    exact decide_eq_true (by omega)
  · rw [hb_all (by omega) h.2 (by omega)]
    exact decide_eq_true (by omega)
  · rw [hb_all (by omega) h.2 j0] at hj
    exact of_decide_eq_true hj
theorem MK.cnt {n : Int} {K : Int32} (M : MK n K) : su (onz K) 0 24 = cK K n ∧ 2 ≤ cK K n ∧ cK K n ≤ n := by
  obtain ⟨⟨h2, h24⟩, hb0, hbn, hbj⟩ := M
  refine ⟨?_, ?_, (cK_b K (by omega)).2⟩
  · refine su_skip (onz K) (by omega) h24 (fun i i0 i1 => ?_)
    show bi (hb K i) = 0
    cases hi : hb K i with
    | true =>
      have := hbj i (by omega) hi
      omega
    | false => rfl
  · have c1 := cK_y (Int.le_refl 0) hb0
    have c2 := cK_y (show 0 ≤ n - 1 by omega) hbn
    have c3 := cK_le K (a := 0 + 1) (b := n - 1) (by omega) (by omega)
    rw [cK_0] at c1
    rw [show n - 1 + 1 = n by omega] at c2
    omega
end
