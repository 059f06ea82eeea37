/-! changing strokes -/
def SameOut (z z' : Nat → Int32) (s : Int) : Prop := ∀ j : Int, 0 ≤ j → (j < 74 * s ∨ 74 * s + 74 ≤ j) → z' j.toNat = z j.toNat
theorem SameOut.rf (z : Nat → Int32) (s : Int) : SameOut z z s := fun _ _ _ => rfl
theorem SameOut.tr {z z' z2 : Nat → Int32} {s : Int} (h : SameOut z z' s) (k : SameOut z' z2 s) : SameOut z z2 s := fun j a b => (k j a b).trans (h j a b)
theorem SameOut.up {z : Nat → Int32} {s i : Int} (v : Int32) (h0 : 74 * s ≤ i) (h1 : i < 74 * s + 74) (h2 : 0 ≤ s) : SameOut z (upd z i.toNat v) s := fun j a b => upd_n (by omega)
def mup (m : Nat → Int32) (p x y w : Int) : Nat → Int32 := upd (upd (upd m p.toNat (iZ x)) (p + 1).toNat (iZ y)) (p + 2).toNat (iZ w)
theorem mup_at {m : Nat → Int32} {p x y w j : Int} (h0 : 0 ≤ p) (hj : 0 ≤ j) : mup m p x y w j.toNat = if j = p then iZ x else if j = p + 1 then iZ y else if j = p + 2 then iZ w else m j.toNat := by
  unfold mup
  by_cases e3 : j = p + 2
  · subst e3
    rw [upd_s, if_neg (by omega), if_neg (by omega), if_pos rfl]
  · by_cases e2 : j = p + 1
    · subst e2
      rw [upd_n (by omega), upd_s, if_neg (by omega), if_pos rfl]
    · by_cases e1 : j = p
      · subst e1
        rw [upd_n (by omega), upd_n (by omega), upd_s, if_pos rfl]
      · rw [upd_n (by omega), upd_n (by omega), upd_n (by omega), if_neg e1, if_neg e2, if_neg e3]
theorem mup_o {m : Nat → Int32} {p x y w j : Int} (h0 : 0 ≤ p) (hj : 0 ≤ j) (h : j < p ∨ p + 3 ≤ j) : mup m p x y w j.toNat = m j.toNat := by
  rw [mup_at h0 hj, if_neg (by omega), if_neg (by omega), if_neg (by omega)]
/-- a memory's point -/
theorem mup_3 {m : Nat → Int32} {p x y w : Int} (h0 : 0 ≤ p) : mup m p x y w p.toNat = iZ x ∧ mup m p x y w (p + 1).toNat = iZ y ∧ mup m p x y w (p + 2).toNat = iZ w := by
  refine ⟨?_, ?_, ?_⟩
  · rw [mup_at h0 h0, if_pos rfl]
  · rw [mup_at h0 (by omega), if_neg (by omega), if_pos rfl]
  · rw [mup_at h0 (by omega), if_neg (by omega), if_neg (by omega), if_pos rfl]
theorem SameOut.mup {z : Nat → Int32} {s p x y w : Int} (h0 : 74 * s ≤ p) (h1 : p + 3 ≤ 74 * s + 74) (h2 : 0 ≤ s) : SameOut z (mup z p x y w) s := fun j a b => mup_o (by omega) a (by omega)
def insN (N : Int → Int) (i x y w : Int) : Int → Int := fun j => if j < 3 * i then N j else if j = 3 * i then x else if j = 3 * i + 1 then y else if j = 3 * i + 2 then w else N (j - 3)
def delN (N : Int → Int) (i : Int) : Int → Int := fun j => if j < 3 * i then N j else N (j + 3)
def setN (N : Int → Int) (i x y w : Int) : Int → Int := fun j => if j = 3 * i then x else if j = 3 * i + 1 then y else if j = 3 * i + 2 then w else N j
section K1
variable {m : Nat → Int32} {n : Int} {N : Int → Int} {s K : Int32}
theorem c_putP {k x y w : Int} (h0 : 0 ≤ k) (h1 : k < 24) : fX3_putPoint (iZ k) (iZ x) (iZ y) (iZ w) (m, s, K) = some (mup m (3 * k) x y w, s, K) := by
  by_cases e : k < 23
  · unfold fX3_putPoint
    simp (disch := omega) only [S_numbers, S_s_numbers, gd_true, gd_dec, lt_def, bind_s, isb_0, isb_1, iZ_add, iZ_sub, iZ_mul, iZ_neg, lZ_add, lZ_sub, lZ_mul, iZ_lt, iZ_le, iZ_eq, lZ_lt, lZ_le, lZ_eq, iZ_64, iZ_N, inb_Z, if_pos, if_neg, ↓reduceIte, Bool.true_eq_false, Bool.false_eq_true, li0, li1, li2, li3, li4, li5, li6, li9, li10, li16, li20, li23, li24, li25, li31, li33, li44, li48, li49, li50, li51, li57, li59, li60, li63, li69, li70, li71, li72, li74, li99, li100, li119, li126, li250, li296, li297, li298, li299, li300, li301, li302, li303, li606, li1515, li1818, li16384, li1048576, li2147483647, li10000, lj0, lj1, lj10000]
    rfl
  · have : k = 23 := by omega
    subst this
    unfold fX3_putPoint
    simp (disch := omega) only [S_numbers, S_s_numbers, gd_true, gd_dec, lt_def, bind_s, isb_0, isb_1, iZ_add, iZ_sub, iZ_mul, iZ_neg, lZ_add, lZ_sub, lZ_mul, iZ_lt, iZ_le, iZ_eq, lZ_lt, lZ_le, lZ_eq, iZ_64, iZ_N, inb_Z, if_pos, if_neg, ↓reduceIte, Bool.true_eq_false, Bool.false_eq_true, li0, li1, li2, li3, li4, li5, li6, li9, li10, li16, li20, li23, li24, li25, li31, li33, li44, li48, li49, li50, li51, li57, li59, li60, li63, li69, li70, li71, li72, li74, li99, li100, li119, li126, li250, li296, li297, li298, li299, li300, li301, li302, li303, li606, li1515, li1818, li16384, li1048576, li2147483647, li10000, lj0, lj1, lj10000]
    rfl
theorem c_keepAll : fX3_keepAll (m, iZ n, K) = some (m, iZ n, allK n) := by
  unfold fX3_keepAll
  simp (disch := omega) only [S_size, S_s_kept, gd_true, gd_dec, lt_def, bind_s, isb_0, isb_1, iZ_add, iZ_sub, iZ_mul, iZ_neg, lZ_add, lZ_sub, lZ_mul, iZ_lt, iZ_le, iZ_eq, lZ_lt, lZ_le, lZ_eq, iZ_64, iZ_N, inb_Z, if_pos, if_neg, ↓reduceIte, Bool.true_eq_false, Bool.false_eq_true, li0, li1, li2, li3, li4, li5, li6, li9, li10, li16, li20, li23, li24, li25, li31, li33, li44, li48, li49, li50, li51, li57, li59, li60, li63, li69, li70, li71, li72, li74, li99, li100, li119, li126, li250, li296, li297, li298, li299, li300, li301, li302, li303, li606, li1515, li1818, li16384, li1048576, li2147483647, li10000, lj0, lj1, lj10000]
  rfl
theorem c_insert (hm : Row m n N) (hn : 0 ≤ n ∧ n < 24) {i x y w : Int} (h0 : 0 ≤ i) (h1 : i ≤ n) : ∃ m' : Nat → Int32, fX3_insertPoint (iZ i) (iZ x) (iZ y) (iZ w) (m, iZ n, K) = some (m', iZ (n + 1), allK (n + 1)) ∧ Row m' (n + 1) (insN N i x y w) := by
  obtain ⟨r, q1, m1, rfl, g1, g2⟩ := lp_dn (f := bX3_insertPoint_16 (iZ i)) (fun k st => ∃ m' : Nat → Int32, st = (iZ k, (m', iZ n, K)) ∧ (∀ j : Int, 0 ≤ j → j < 3 * k → m' j.toNat = iZ (N j)) ∧ ∀ j : Int, 3 * k + 3 ≤ j → j < 3 * n + 3 → m' j.toNat = iZ (N (j - 3))) (fun r => ∃ m' : Nat → Int32, r = (m', iZ n, K) ∧ (∀ j : Int, 0 ≤ j → j < 3 * i → m' j.toNat = iZ (N j)) ∧ ∀ j : Int, 3 * i + 3 ≤ j → j < 3 * n + 3 → m' j.toNat = iZ (N (j - 3))) (i := n) (n := i) h1 (by
    rintro k st k0 k1 ⟨m', rfl, a1, a2⟩
    have hx := c_x (m := m') (n := k) (N := N) (s := iZ n) (K := K) a1 (by omega) (k := k - 1) (by omega) (by omega)
    have hy := c_y (m := m') (n := k) (N := N) (s := iZ n) (K := K) a1 (by omega) (k := k - 1) (by omega) (by omega)
    have hw := c_w (m := m') (n := k) (N := N) (s := iZ n) (K := K) a1 (by omega) (k := k - 1) (by omega) (by omega)
    have hp := c_putP (m := m') (s := iZ n) (K := K) (k := k) (x := N (3 * (k - 1))) (y := N (3 * (k - 1) + 1)) (w := N (3 * (k - 1) + 2)) (by omega) (by omega)
    obtain ⟨p1, p2, p3⟩ := mup_3 (m := m') (p := 3 * k) (x := N (3 * (k - 1))) (y := N (3 * (k - 1) + 1)) (w := N (3 * (k - 1) + 2)) (by omega)
    refine ⟨(iZ (k - 1), (mup m' (3 * k) (N (3 * (k - 1))) (N (3 * (k - 1) + 1)) (N (3 * (k - 1) + 2)), iZ n, K)), ?_, _, rfl, fun j j0 j1 => ?_, fun j j0 j1 => ?_⟩
    · simp (disch := omega) only [bX3_insertPoint_16, hx, hy, hw, hp, ← Int.sub_eq_add_neg, gd_true, gd_dec, lt_def, bind_s, isb_0, isb_1, iZ_add, iZ_sub, iZ_mul, iZ_neg, lZ_add, lZ_sub, lZ_mul, iZ_lt, iZ_le, iZ_eq, lZ_lt, lZ_le, lZ_eq, iZ_64, iZ_N, inb_Z, if_pos, if_neg, ↓reduceIte, Bool.true_eq_false, Bool.false_eq_true, li0, li1, li2, li3, li4, li5, li6, li9, li10, li16, li20, li23, li24, li25, li31, li33, li44, li48, li49, li50, li51, li57, li59, li60, li63, li69, li70, li71, li72, li74, li99, li100, li119, li126, li250, li296, li297, li298, li299, li300, li301, li302, li303, li606, li1515, li1818, li16384, li1048576, li2147483647, li10000, lj0, lj1, lj10000]
    · rw [mup_o (by omega) j0 (by omega)]
      exact a1 j j0 (by omega)
    · by_cases e0 : j = 3 * k
      · subst e0
        rw [p1, show 3 * k - 3 = 3 * (k - 1) by omega]
      · by_cases e1 : j = 3 * k + 1
        · subst e1
          rw [p2, show 3 * k + 1 - 3 = 3 * (k - 1) + 1 by omega]
        · by_cases e2 : j = 3 * k + 2
          · subst e2
            rw [p3, show 3 * k + 2 - 3 = 3 * (k - 1) + 2 by omega]
          · rw [mup_o (by omega) (by omega) (by omega)]
            exact a2 j (by omega) j1) (by
    rintro st ⟨m', rfl, a1, a2⟩
    refine ⟨(m', iZ n, K), ?_, m', rfl, a1, a2⟩
    simp (disch := omega) only [bX3_insertPoint_16, gd_true, gd_dec, lt_def, bind_s, isb_0, isb_1, iZ_add, iZ_sub, iZ_mul, iZ_neg, lZ_add, lZ_sub, lZ_mul, iZ_lt, iZ_le, iZ_eq, lZ_lt, lZ_le, lZ_eq, iZ_64, iZ_N, inb_Z, if_pos, if_neg, ↓reduceIte, Bool.true_eq_false, Bool.false_eq_true, li0, li1, li2, li3, li4, li5, li6, li9, li10, li16, li20, li23, li24, li25, li31, li33, li44, li48, li49, li50, li51, li57, li59, li60, li63, li69, li70, li71, li72, li74, li99, li100, li119, li126, li250, li296, li297, li298, li299, li300, li301, li302, li303, li606, li1515, li1818, li16384, li1048576, li2147483647, li10000, lj0, lj1, lj10000]) (s := (iZ n, (m, iZ n, K))) ⟨m, rfl, hm, fun j a b => by omega⟩
  have hp := c_putP (m := m1) (s := iZ n) (K := K) (k := i) (x := x) (y := y) (w := w) h0 (by omega)
  have hk := c_keepAll (m := mup m1 (3 * i) x y w) (n := n + 1) (K := K)
  refine ⟨mup m1 (3 * i) x y w, ?_, fun j j0 j1 => ?_⟩
  · unfold fX3_insertPoint lX3_insertPoint_16
    simp (disch := omega) only [S_size, gd_true, gd_dec, lt_def, bind_s, isb_0, isb_1, iZ_add, iZ_sub, iZ_mul, iZ_neg, lZ_add, lZ_sub, lZ_mul, iZ_lt, iZ_le, iZ_eq, lZ_lt, lZ_le, lZ_eq, iZ_64, iZ_N, inb_Z, if_pos, if_neg, ↓reduceIte, Bool.true_eq_false, Bool.false_eq_true, li0, li1, li2, li3, li4, li5, li6, li9, li10, li16, li20, li23, li24, li25, li31, li33, li44, li48, li49, li50, li51, li57, li59, li60, li63, li69, li70, li71, li72, li74, li99, li100, li119, li126, li250, li296, li297, li298, li299, li300, li301, li302, li303, li606, li1515, li1818, li16384, li1048576, li2147483647, li10000, lj0, lj1, lj10000]
    rw [q1]
    simp (disch := omega) only [hp, S_size, S_s_size, hk, gd_true, gd_dec, lt_def, bind_s, isb_0, isb_1, iZ_add, iZ_sub, iZ_mul, iZ_neg, lZ_add, lZ_sub, lZ_mul, iZ_lt, iZ_le, iZ_eq, lZ_lt, lZ_le, lZ_eq, iZ_64, iZ_N, inb_Z, if_pos, if_neg, ↓reduceIte, Bool.true_eq_false, Bool.false_eq_true, li0, li1, li2, li3, li4, li5, li6, li9, li10, li16, li20, li23, li24, li25, li31, li33, li44, li48, li49, li50, li51, li57, li59, li60, li63, li69, li70, li71, li72, li74, li99, li100, li119, li126, li250, li296, li297, li298, li299, li300, li301, li302, li303, li606, li1515, li1818, li16384, li1048576, li2147483647, li10000, lj0, lj1, lj10000]
  · rw [mup_at (by omega) j0]
    unfold insN
    by_cases e : j < 3 * i
    · rw [if_neg (by omega), if_neg (by omega), if_neg (by omega), if_pos e]
      exact g1 j j0 e
    · rw [if_neg e]
      by_cases e0 : j = 3 * i
      · rw [if_pos e0, if_pos e0]
      · by_cases e1 : j = 3 * i + 1
        · rw [if_neg e0, if_neg e0, if_pos e1, if_pos e1]
        · by_cases e2 : j = 3 * i + 2
          · rw [if_neg e0, if_neg e0, if_neg e1, if_neg e1, if_pos e2, if_pos e2]
          · rw [if_neg e0, if_neg e0, if_neg e1, if_neg e1, if_neg e2, if_neg e2]
            exact g2 j (by omega) (by omega)
theorem c_remove (hm : Row m n N) (hn : 1 ≤ n ∧ n ≤ 24) {i : Int} (h0 : 0 ≤ i) (h1 : i < n) : ∃ m' : Nat → Int32, fX3_removePoint (iZ i) (m, iZ n, K) = some (m', iZ (n - 1), allK (n - 1)) ∧ Row m' (n - 1) (delN N i) := by
  obtain ⟨r, q1, m1, rfl, g1⟩ := lp_up (f := bX3_removePoint_2) (fun k st => ∃ m' : Nat → Int32, st = (iZ k, (m', iZ n, K)) ∧ (∀ j : Int, 0 ≤ j → j < 3 * k → m' j.toNat = iZ (delN N i j)) ∧ ∀ j : Int, 3 * k ≤ j → j < 3 * n → m' j.toNat = iZ (N j)) (fun r => ∃ m' : Nat → Int32, r = (m', iZ n, K) ∧ (∀ j : Int, 0 ≤ j → j < 3 * (n - 1) → m' j.toNat = iZ (delN N i j))) (i := i) (n := n - 1) (by omega) (by
    rintro k st k0 k1 ⟨m', rfl, a1, a2⟩
    have hr : ∀ w : Int, 0 ≤ w → w < 3 → m' (3 * (k + 1) + w).toNat = iZ (N (3 * (k + 1) + w)) := fun w w0 w1 => a2 _ (by omega) (by omega)
    have hx : fX3_x (iZ (k + 1)) (m', iZ n, K) = some (iZ (N (3 * (k + 1)))) := by
      have e := hr 0 (by omega) (by omega)
      rw [Int.add_zero] at e
      unfold fX3_x
      simp (disch := omega) only [S_numbers, e, gd_true, gd_dec, lt_def, bind_s, isb_0, isb_1, iZ_add, iZ_sub, iZ_mul, iZ_neg, lZ_add, lZ_sub, lZ_mul, iZ_lt, iZ_le, iZ_eq, lZ_lt, lZ_le, lZ_eq, iZ_64, iZ_N, inb_Z, if_pos, if_neg, ↓reduceIte, Bool.true_eq_false, Bool.false_eq_true, li0, li1, li2, li3, li4, li5, li6, li9, li10, li16, li20, li23, li24, li25, li31, li33, li44, li48, li49, li50, li51, li57, li59, li60, li63, li69, li70, li71, li72, li74, li99, li100, li119, li126, li250, li296, li297, li298, li299, li300, li301, li302, li303, li606, li1515, li1818, li16384, li1048576, li2147483647, li10000, lj0, lj1, lj10000]
    have hy : fX3_y (iZ (k + 1)) (m', iZ n, K) = some (iZ (N (3 * (k + 1) + 1))) := by
      have e := hr 1 (by omega) (by omega)
      unfold fX3_y
      simp (disch := omega) only [S_numbers, e, gd_true, gd_dec, lt_def, bind_s, isb_0, isb_1, iZ_add, iZ_sub, iZ_mul, iZ_neg, lZ_add, lZ_sub, lZ_mul, iZ_lt, iZ_le, iZ_eq, lZ_lt, lZ_le, lZ_eq, iZ_64, iZ_N, inb_Z, if_pos, if_neg, ↓reduceIte, Bool.true_eq_false, Bool.false_eq_true, li0, li1, li2, li3, li4, li5, li6, li9, li10, li16, li20, li23, li24, li25, li31, li33, li44, li48, li49, li50, li51, li57, li59, li60, li63, li69, li70, li71, li72, li74, li99, li100, li119, li126, li250, li296, li297, li298, li299, li300, li301, li302, li303, li606, li1515, li1818, li16384, li1048576, li2147483647, li10000, lj0, lj1, lj10000]
    have hw : fX3_width (iZ (k + 1)) (m', iZ n, K) = some (iZ (N (3 * (k + 1) + 2))) := by
      have e := hr 2 (by omega) (by omega)
      unfold fX3_width
      simp (disch := omega) only [S_numbers, e, gd_true, gd_dec, lt_def, bind_s, isb_0, isb_1, iZ_add, iZ_sub, iZ_mul, iZ_neg, lZ_add, lZ_sub, lZ_mul, iZ_lt, iZ_le, iZ_eq, lZ_lt, lZ_le, lZ_eq, iZ_64, iZ_N, inb_Z, if_pos, if_neg, ↓reduceIte, Bool.true_eq_false, Bool.false_eq_true, li0, li1, li2, li3, li4, li5, li6, li9, li10, li16, li20, li23, li24, li25, li31, li33, li44, li48, li49, li50, li51, li57, li59, li60, li63, li69, li70, li71, li72, li74, li99, li100, li119, li126, li250, li296, li297, li298, li299, li300, li301, li302, li303, li606, li1515, li1818, li16384, li1048576, li2147483647, li10000, lj0, lj1, lj10000]
    have hp := c_putP (m := m') (s := iZ n) (K := K) (k := k) (x := N (3 * (k + 1))) (y := N (3 * (k + 1) + 1)) (w := N (3 * (k + 1) + 2)) (by omega) (by omega)
    obtain ⟨p1, p2, p3⟩ := mup_3 (m := m') (p := 3 * k) (x := N (3 * (k + 1))) (y := N (3 * (k + 1) + 1)) (w := N (3 * (k + 1) + 2)) (by omega)
    refine ⟨(iZ (k + 1), (mup m' (3 * k) (N (3 * (k + 1))) (N (3 * (k + 1) + 1)) (N (3 * (k + 1) + 2)), iZ n, K)), ?_, _, rfl, fun j j0 j1 => ?_, fun j j0 j1 => ?_⟩
    · simp (disch := omega) only [bX3_removePoint_2, S_size, hx, hy, hw, hp, gd_true, gd_dec, lt_def, bind_s, isb_0, isb_1, iZ_add, iZ_sub, iZ_mul, iZ_neg, lZ_add, lZ_sub, lZ_mul, iZ_lt, iZ_le, iZ_eq, lZ_lt, lZ_le, lZ_eq, iZ_64, iZ_N, inb_Z, if_pos, if_neg, ↓reduceIte, Bool.true_eq_false, Bool.false_eq_true, li0, li1, li2, li3, li4, li5, li6, li9, li10, li16, li20, li23, li24, li25, li31, li33, li44, li48, li49, li50, li51, li57, li59, li60, li63, li69, li70, li71, li72, li74, li99, li100, li119, li126, li250, li296, li297, li298, li299, li300, li301, li302, li303, li606, li1515, li1818, li16384, li1048576, li2147483647, li10000, lj0, lj1, lj10000]
    · by_cases e0 : j = 3 * k
      · subst e0
        rw [p1]
        unfold delN
        rw [if_neg (by omega), show 3 * k + 3 = 3 * (k + 1) by omega]
      · by_cases e1 : j = 3 * k + 1
        · subst e1
          rw [p2]
          unfold delN
          rw [if_neg (by omega), show 3 * k + 1 + 3 = 3 * (k + 1) + 1 by omega]
        · by_cases e2 : j = 3 * k + 2
          · subst e2
            rw [p3]
            unfold delN
            rw [if_neg (by omega), show 3 * k + 2 + 3 = 3 * (k + 1) + 2 by omega]
          · rw [mup_o (by omega) j0 (by omega)]
            exact a1 j j0 (by omega)
    · rw [mup_o (by omega) (by omega) (by omega)]
      exact a2 j (by omega) j1) (by
    rintro st ⟨m', rfl, a1, a2⟩
    refine ⟨(m', iZ n, K), ?_, m', rfl, a1⟩
    simp (disch := omega) only [bX3_removePoint_2, S_size, gd_true, gd_dec, lt_def, bind_s, isb_0, isb_1, iZ_add, iZ_sub, iZ_mul, iZ_neg, lZ_add, lZ_sub, lZ_mul, iZ_lt, iZ_le, iZ_eq, lZ_lt, lZ_le, lZ_eq, iZ_64, iZ_N, inb_Z, if_pos, if_neg, ↓reduceIte, Bool.true_eq_false, Bool.false_eq_true, li0, li1, li2, li3, li4, li5, li6, li9, li10, li16, li20, li23, li24, li25, li31, li33, li44, li48, li49, li50, li51, li57, li59, li60, li63, li69, li70, li71, li72, li74, li99, li100, li119, li126, li250, li296, li297, li298, li299, li300, li301, li302, li303, li606, li1515, li1818, li16384, li1048576, li2147483647, li10000, lj0, lj1, lj10000]) (s := (iZ i, (m, iZ n, K))) ⟨m, rfl, fun j a b => by
      unfold delN
      rw [if_pos b]
      exact hm j a (by omega), fun j a b => hm j (by omega) b⟩
  have hk := c_keepAll (m := m1) (n := n - 1) (K := K)
  refine ⟨m1, ?_, g1⟩
  unfold fX3_removePoint lX3_removePoint_2
  rw [q1]
  simp (disch := omega) only [S_size, S_s_size, hk, gd_true, gd_dec, lt_def, bind_s, isb_0, isb_1, iZ_add, iZ_sub, iZ_mul, iZ_neg, lZ_add, lZ_sub, lZ_mul, iZ_lt, iZ_le, iZ_eq, lZ_lt, lZ_le, lZ_eq, iZ_64, iZ_N, inb_Z, if_pos, if_neg, ↓reduceIte, Bool.true_eq_false, Bool.false_eq_true, li0, li1, li2, li3, li4, li5, li6, li9, li10, li16, li20, li23, li24, li25, li31, li33, li44, li48, li49, li50, li51, li57, li59, li60, li63, li69, li70, li71, li72, li74, li99, li100, li119, li126, li250, li296, li297, li298, li299, li300, li301, li302, li303, li606, li1515, li1818, li16384, li1048576, li2147483647, li10000, lj0, lj1, lj10000]
end K1
section K2
variable {s n : Int} {N : Int → Int} {K : Int32}
end K2
