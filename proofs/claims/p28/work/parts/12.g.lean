/-! p28: the law's turns -/
section LG
variable {u : ShS} {f : Nat → Int32} {n : Int} {N : Int → Int} {K F : Int32} {v : Int → Int} {hs : HS}
theorem l_insR (hm : Row f n N) (hn : 0 ≤ n ∧ n < 12) {i : Int} (i0 : 0 ≤ i) (i1 : i ≤ n) : ∃ f1 : Nat → Int32, lL_law_212 (iZ i) 36 (iZ n) f = some f1 ∧ ∀ x y w : Int, Row (mup f1 (3 * i) x y w) (n + 1) (insN N i x y w) := by
  obtain ⟨r, q1, g1, g2⟩ := lp_dn (f := bL_law_212 (iZ i) 36) (fun k st => ∃ m' : Nat → Int32, st = (iZ k, m') ∧ (∀ j : Int, 0 ≤ j → j < 3 * k → m' j.toNat = iZ (N j)) ∧ ∀ j : Int, 3 * k + 3 ≤ j → j < 3 * n + 3 → m' j.toNat = iZ (N (j - 3))) (fun m' => (∀ j : Int, 0 ≤ j → j < 3 * i → m' j.toNat = iZ (N j)) ∧ ∀ j : Int, 3 * i + 3 ≤ j → j < 3 * n + 3 → m' j.toNat = iZ (N (j - 3))) (i := n) (n := i) i1 (by
    rintro k st k0 k1 ⟨m', rfl, a1, a2⟩
    have e1 := a1 (3 * k - 3) (by omega) (by omega)
    have e2 := a1 (3 * k - 2) (by omega) (by omega)
    have e3 := a1 (3 * k - 1) (by omega) (by omega)
    have hp := l_put (f := m') (k := k) (x := N (3 * k - 3)) (y := N (3 * k - 2)) (w := N (3 * k - 1)) (by omega) (by omega)
    obtain ⟨p1, p2, p3⟩ := mup_3 (m := m') (p := 3 * k) (x := N (3 * k - 3)) (y := N (3 * k - 2)) (w := N (3 * k - 1)) (by omega)
    refine ⟨(iZ (k - 1), mup m' (3 * k) (N (3 * k - 3)) (N (3 * k - 2)) (N (3 * k - 1))), ?_, _, rfl, fun j j0 j1 => ?_, fun j j0 j1 => ?_⟩
    · simp (disch := omega) only [bL_law_212, e1, e2, e3, hp, ← Int.sub_eq_add_neg, gd_true, gd_dec, lt_def, bind_s, isb_0, isb_1, iZ_add, iZ_sub, iZ_mul, iZ_neg, lZ_add, lZ_sub, lZ_mul, iZ_lt, iZ_le, iZ_eq, lZ_lt, lZ_le, lZ_eq, iZ_64, iZ_N, inb_Z, if_pos, if_neg, ↓reduceIte, Bool.true_eq_false, Bool.false_eq_true, li7, li8, li12, li14, li34, li35, li36, li40, li101, li0, li1, li2, li3, li4, li5, li6, li9, li10, li16, li20, li23, li24, li25, li31, li33, li44, li48, li49, li50, li51, li57, li59, li60, li63, li69, li70, li71, li72, li74, li99, li100, li119, li126, li250, li296, li297, li298, li299, li300, li301, li302, li303, li606, li1515, li1818, li16384, li1048576, li2147483647, li10000, lj0, lj1, lj10000]
    · rw [mup_o (by omega) j0 (by omega)]
      exact a1 j j0 (by omega)
    · by_cases c0 : j = 3 * k
      · subst c0
        exact p1
      · by_cases c1 : j = 3 * k + 1
        · subst c1
          rw [p2, show 3 * k + 1 - 3 = 3 * k - 2 by omega]
        · by_cases c2 : j = 3 * k + 2
          · subst c2
            rw [p3, show 3 * k + 2 - 3 = 3 * k - 1 by omega]
          · rw [mup_o (by omega) (by omega) (by omega)]
            exact a2 j (by omega) j1) (by
    rintro st ⟨m', rfl, a1, a2⟩
    refine ⟨m', ?_, a1, a2⟩
    simp (disch := omega) only [bL_law_212, gd_true, gd_dec, lt_def, bind_s, isb_0, isb_1, iZ_add, iZ_sub, iZ_mul, iZ_neg, lZ_add, lZ_sub, lZ_mul, iZ_lt, iZ_le, iZ_eq, lZ_lt, lZ_le, lZ_eq, iZ_64, iZ_N, inb_Z, if_pos, if_neg, ↓reduceIte, Bool.true_eq_false, Bool.false_eq_true, li7, li8, li12, li14, li34, li35, li36, li40, li101, li0, li1, li2, li3, li4, li5, li6, li9, li10, li16, li20, li23, li24, li25, li31, li33, li44, li48, li49, li50, li51, li57, li59, li60, li63, li69, li70, li71, li72, li74, li99, li100, li119, li126, li250, li296, li297, li298, li299, li300, li301, li302, li303, li606, li1515, li1818, li16384, li1048576, li2147483647, li10000, lj0, lj1, lj10000]) (s := (iZ n, f)) ⟨f, rfl, hm, fun j a b => by omega⟩
  refine ⟨r, q1, fun x y w j j0 j1 => ?_⟩
  rw [mup_at (by omega) j0]
  unfold insN
  by_cases e : j < 3 * i
  · rw [if_neg (by omega), if_neg (by omega), if_neg (by omega), if_pos e]
    exact g1 j j0 e
  · rw [if_neg e]
    by_cases e0 : j = 3 * i
    · rw [if_pos e0, if_pos e0]
    · by_cases e1 : j = 3 * i + 1
      · rw [if_neg e0, if_neg e0, if_pos e1, if_pos e1]
      · by_cases e2 : j = 3 * i + 2
        · rw [if_neg e0, if_neg e0, if_neg e1, if_neg e1, if_pos e2, if_pos e2]
        · rw [if_neg e0, if_neg e0, if_neg e1, if_neg e1, if_neg e2, if_neg e2]
          exact g2 j (by omega) (by omega)
theorem l_delR (hm : Row f n N) (hn : 1 ≤ n ∧ n ≤ 12) {i : Int} (i0 : 0 ≤ i) (i1 : i < n) : ∃ f1 : Nat → Int32, lL_law_482 (iZ n) 36 (iZ i) f = some f1 ∧ Row f1 (n - 1) (delN N i) := by
  obtain ⟨r, q1, g1⟩ := lp_up (f := bL_law_482 (iZ n) 36) (fun k st => ∃ m' : Nat → Int32, st = (iZ k, m') ∧ (∀ j : Int, 0 ≤ j → j < 3 * k → m' j.toNat = iZ (delN N i j)) ∧ ∀ j : Int, 3 * k ≤ j → j < 3 * n → m' j.toNat = iZ (N j)) (fun m' => ∀ j : Int, 0 ≤ j → j < 3 * (n - 1) → m' j.toNat = iZ (delN N i j)) (i := i) (n := n - 1) (by omega) (by
    rintro k st k0 k1 ⟨m', rfl, a1, a2⟩
    have e1 := a2 (3 * k + 3) (by omega) (by omega)
    have e2 := a2 (3 * k + 4) (by omega) (by omega)
    have e3 := a2 (3 * k + 5) (by omega) (by omega)
    have hp := l_put (f := m') (k := k) (x := N (3 * k + 3)) (y := N (3 * k + 4)) (w := N (3 * k + 5)) (by omega) (by omega)
    obtain ⟨p1, p2, p3⟩ := mup_3 (m := m') (p := 3 * k) (x := N (3 * k + 3)) (y := N (3 * k + 4)) (w := N (3 * k + 5)) (by omega)
    refine ⟨(iZ (k + 1), mup m' (3 * k) (N (3 * k + 3)) (N (3 * k + 4)) (N (3 * k + 5))), ?_, _, rfl, fun j j0 j1 => ?_, fun j j0 j1 => ?_⟩
    · simp (disch := omega) only [bL_law_482, e1, e2, e3, hp, gd_true, gd_dec, lt_def, bind_s, isb_0, isb_1, iZ_add, iZ_sub, iZ_mul, iZ_neg, lZ_add, lZ_sub, lZ_mul, iZ_lt, iZ_le, iZ_eq, lZ_lt, lZ_le, lZ_eq, iZ_64, iZ_N, inb_Z, if_pos, if_neg, ↓reduceIte, Bool.true_eq_false, Bool.false_eq_true, li7, li8, li12, li14, li34, li35, li36, li40, li101, li0, li1, li2, li3, li4, li5, li6, li9, li10, li16, li20, li23, li24, li25, li31, li33, li44, li48, li49, li50, li51, li57, li59, li60, li63, li69, li70, li71, li72, li74, li99, li100, li119, li126, li250, li296, li297, li298, li299, li300, li301, li302, li303, li606, li1515, li1818, li16384, li1048576, li2147483647, li10000, lj0, lj1, lj10000]
    · by_cases c0 : j = 3 * k
      · subst c0
        rw [p1]
        unfold delN
        rw [if_neg (by omega)]
      · by_cases c1 : j = 3 * k + 1
        · subst c1
          rw [p2]
          unfold delN
          rw [if_neg (by omega), show 3 * k + 1 + 3 = 3 * k + 4 by omega]
        · by_cases c2 : j = 3 * k + 2
          · subst c2
            rw [p3]
            unfold delN
            rw [if_neg (by omega), show 3 * k + 2 + 3 = 3 * k + 5 by omega]
          · rw [mup_o (by omega) j0 (by omega)]
            exact a1 j j0 (by omega)
    · rw [mup_o (by omega) (by omega) (by omega)]
      exact a2 j (by omega) j1) (by
    rintro st ⟨m', rfl, a1, a2⟩
    refine ⟨m', ?_, a1⟩
    simp (disch := omega) only [bL_law_482, gd_true, gd_dec, lt_def, bind_s, isb_0, isb_1, iZ_add, iZ_sub, iZ_mul, iZ_neg, lZ_add, lZ_sub, lZ_mul, iZ_lt, iZ_le, iZ_eq, lZ_lt, lZ_le, lZ_eq, iZ_64, iZ_N, inb_Z, if_pos, if_neg, ↓reduceIte, Bool.true_eq_false, Bool.false_eq_true, li7, li8, li12, li14, li34, li35, li36, li40, li101, li0, li1, li2, li3, li4, li5, li6, li9, li10, li16, li20, li23, li24, li25, li31, li33, li44, li48, li49, li50, li51, li57, li59, li60, li63, li69, li70, li71, li72, li74, li99, li100, li119, li126, li250, li296, li297, li298, li299, li300, li301, li302, li303, li606, li1515, li1818, li16384, li1048576, li2147483647, li10000, lj0, lj1, lj10000]) (s := (iZ i, f)) ⟨f, rfl, fun j a b => by
      unfold delN
      rw [if_pos b]
      exact hm j a (by omega), fun j a b => hm j (by omega) b⟩
  exact ⟨r, q1, g1⟩
theorem l_bakeR (hm : Row f n N) (hn : 0 ≤ n ∧ n ≤ 12) : ∃ f1 : Nat → Int32, lL_law_838 (iZ n) K 36 (iZ 0) (iZ 0) f = some (iZ (cK K n), f1) ∧ ∀ i w : Int, 0 ≤ i → i < n → hb K i = true → 0 ≤ w → w < 3 → f1 (3 * cK K i + w).toNat = iZ (N (3 * i + w)) := by
  obtain ⟨r, q1, m1, rfl, g⟩ := lp_up (f := bL_law_838 (iZ n) K 36) (fun k st => ∃ m' : Nat → Int32, st = (iZ (cK K k), iZ k, m') ∧ (∀ i w : Int, 0 ≤ i → i < k → hb K i = true → 0 ≤ w → w < 3 → m' (3 * cK K i + w).toNat = iZ (N (3 * i + w))) ∧ ∀ j : Int, 3 * k ≤ j → j < 3 * n → m' j.toNat = iZ (N j)) (fun r => ∃ m' : Nat → Int32, r = (iZ (cK K n), m') ∧ ∀ i w : Int, 0 ≤ i → i < n → hb K i = true → 0 ≤ w → w < 3 → m' (3 * cK K i + w).toNat = iZ (N (3 * i + w))) (i := 0) (n := n) hn.1 (by
    rintro k st k0 k1 ⟨m', rfl, a1, a2⟩
    have cb := cK_b K k0
    cases hb9 : hb K k with
    | true =>
      have c2 := cK_y k0 hb9
      have e0 : m' (3 * k).toNat = iZ (N (3 * k)) := a2 _ (by omega) (by omega)
      have e1 : m' (3 * k + 1).toNat = iZ (N (3 * k + 1)) := a2 _ (by omega) (by omega)
      have e2 : m' (3 * k + 2).toNat = iZ (N (3 * k + 2)) := a2 _ (by omega) (by omega)
      have hp := l_put (f := m') (k := cK K k) (x := N (3 * k)) (y := N (3 * k + 1)) (w := N (3 * k + 2)) cb.1 (by omega)
      obtain ⟨p1, p2, p3⟩ := mup_3 (m := m') (p := 3 * cK K k) (x := N (3 * k)) (y := N (3 * k + 1)) (w := N (3 * k + 2)) (by omega)
      refine ⟨(iZ (cK K (k + 1)), iZ (k + 1), mup m' (3 * cK K k) (N (3 * k)) (N (3 * k + 1)) (N (3 * k + 2))), ?_, _, rfl, fun i w i0 i1 hi w0 w1 => ?_, fun j j0 j1 => ?_⟩
      · rw [c2]
        simp (disch := omega) only [bL_law_838, hb_c, hb9, e0, e1, e2, hp, gd_true, gd_dec, lt_def, bind_s, isb_0, isb_1, iZ_add, iZ_sub, iZ_mul, iZ_neg, lZ_add, lZ_sub, lZ_mul, iZ_lt, iZ_le, iZ_eq, lZ_lt, lZ_le, lZ_eq, iZ_64, iZ_N, inb_Z, if_pos, if_neg, ↓reduceIte, Bool.true_eq_false, Bool.false_eq_true, li7, li8, li12, li14, li34, li35, li36, li40, li101, li0, li1, li2, li3, li4, li5, li6, li9, li10, li16, li20, li23, li24, li25, li31, li33, li44, li48, li49, li50, li51, li57, li59, li60, li63, li69, li70, li71, li72, li74, li99, li100, li119, li126, li250, li296, li297, li298, li299, li300, li301, li302, li303, li606, li1515, li1818, li16384, li1048576, li2147483647, li10000, lj0, lj1, lj10000]
      · by_cases ek : i = k
        · subst ek
          by_cases w9 : w = 0
          · subst w9
            rw [Int.add_zero, Int.add_zero]
            exact p1
          · by_cases w8 : w = 1
            · subst w8
              exact p2
            · have : w = 2 := by omega
              subst this
              exact p3
        · have c3 := cK_lt i0 hi (show i < k by omega)
          have := cK_b K i0
          rw [mup_o (by omega) (by omega) (by omega)]
          exact a1 i w i0 (by omega) hi w0 w1
      · rw [mup_o (by omega) (by omega) (by omega)]
        exact a2 j (by omega) j1
    | false =>
      have c2 := cK_n k0 hb9
      refine ⟨(iZ (cK K (k + 1)), iZ (k + 1), m'), ?_, m', rfl, fun i w i0 i1 hi w0 w1 => ?_, fun j j0 j1 => a2 j (by omega) j1⟩
      · rw [c2]
        simp (disch := omega) only [bL_law_838, hb_c, hb9, gd_true, gd_dec, lt_def, bind_s, isb_0, isb_1, iZ_add, iZ_sub, iZ_mul, iZ_neg, lZ_add, lZ_sub, lZ_mul, iZ_lt, iZ_le, iZ_eq, lZ_lt, lZ_le, lZ_eq, iZ_64, iZ_N, inb_Z, if_pos, if_neg, ↓reduceIte, Bool.true_eq_false, Bool.false_eq_true, li7, li8, li12, li14, li34, li35, li36, li40, li101, li0, li1, li2, li3, li4, li5, li6, li9, li10, li16, li20, li23, li24, li25, li31, li33, li44, li48, li49, li50, li51, li57, li59, li60, li63, li69, li70, li71, li72, li74, li99, li100, li119, li126, li250, li296, li297, li298, li299, li300, li301, li302, li303, li606, li1515, li1818, li16384, li1048576, li2147483647, li10000, lj0, lj1, lj10000]
      · have : i ≠ k := fun e => by rw [e, hb9] at hi; cases hi
        exact a1 i w i0 (by omega) hi w0 w1) (by
    rintro st ⟨m', rfl, a1, a2⟩
    refine ⟨(iZ (cK K n), m'), ?_, m', rfl, a1⟩
    simp (disch := omega) only [bL_law_838, gd_true, gd_dec, lt_def, bind_s, isb_0, isb_1, iZ_add, iZ_sub, iZ_mul, iZ_neg, lZ_add, lZ_sub, lZ_mul, iZ_lt, iZ_le, iZ_eq, lZ_lt, lZ_le, lZ_eq, iZ_64, iZ_N, inb_Z, if_pos, if_neg, ↓reduceIte, Bool.true_eq_false, Bool.false_eq_true, li7, li8, li12, li14, li34, li35, li36, li40, li101, li0, li1, li2, li3, li4, li5, li6, li9, li10, li16, li20, li23, li24, li25, li31, li33, li44, li48, li49, li50, li51, li57, li59, li60, li63, li69, li70, li71, li72, li74, li99, li100, li119, li126, li250, li296, li297, li298, li299, li300, li301, li302, li303, li606, li1515, li1818, li16384, li1048576, li2147483647, li10000, lj0, lj1, lj10000]) (s := (iZ 0, iZ 0, f)) ⟨f, by rw [cK_0], fun i w i0 i1 => by omega, fun j a b => hm j (by omega) b⟩
  exact ⟨m1, q1, g⟩
theorem sel_row (hc : Crd n N) (M : MK n K) {m' f' : Nat → Int32} (h1 : ∀ i w : Int, 0 ≤ i → i < n → hb K i = true → 0 ≤ w → w < 3 → m' (3 * cK K i + w).toNat = iZ (N (3 * i + w))) (h2 : ∀ i w : Int, 0 ≤ i → i < n → hb K i = true → 0 ≤ w → w < 3 → f' (3 * cK K i + w).toNat = iZ (N (3 * i + w))) : ∃ N' : Int → Int, Row m' (cK K n) N' ∧ Row f' (cK K n) N' ∧ Crd (cK K n) N' := by
  have n0 : 0 ≤ n := by have := M.1; omega
  have key : ∀ r : Int, 0 ≤ r → r < cK K n → ∃ k : Int, 0 ≤ k ∧ k < n ∧ hb K k = true ∧ cK K k = r := fun r r0 r1 => by
    obtain ⟨k, k0, k1, k2, k3⟩ := cK_ex K r0 n.toNat (by rw [Int.toNat_of_nonneg n0]; exact r1)
    exact ⟨k, k0, by omega, k2, k3⟩
  refine ⟨fun j => (m' j.toNat).toInt, fun j j0 j1 => iZ_of _, fun j j0 j1 => ?_, fun k k0 k1 => ?_⟩
  · obtain ⟨k, k0, k1, k2, k3⟩ := key (j / 3) (by omega) (by omega)
    have e : j = 3 * cK K k + j % 3 := by rw [k3]; omega
    have g1 := h1 k (j % 3) k0 k1 k2 (by omega) (by omega)
    have g2 := h2 k (j % 3) k0 k1 k2 (by omega) (by omega)
    rw [← e] at g1 g2
    show f' j.toNat = iZ (m' j.toNat).toInt
    rw [← iZ_of, g1, g2]
  · obtain ⟨i, i0, i1, i2, i3⟩ := key k k0 k1
    have g0 := h1 i 0 i0 i1 i2 (by omega) (by omega)
    have g1 := h1 i 1 i0 i1 i2 (by omega) (by omega)
    have g2 := h1 i 2 i0 i1 i2 (by omega) (by omega)
    rw [i3] at g0 g1 g2
    rw [Int.add_zero, Int.add_zero] at g0
    obtain ⟨c0, c1, c2⟩ := hc i i0 i1
    show (0 ≤ (m' (3 * k).toNat).toInt ∧ (m' (3 * k).toNat).toInt ≤ 99) ∧ (0 ≤ (m' (3 * k + 1).toNat).toInt ∧ (m' (3 * k + 1).toNat).toInt ≤ 99) ∧ 1 ≤ (m' (3 * k + 2).toNat).toInt ∧ (m' (3 * k + 2).toNat).toInt ≤ 20
    rw [g0, g1, g2, iZ_T (by omega) (by omega), iZ_T (by omega) (by omega), iZ_T (by omega) (by omega)]
    exact ⟨c0, c1, c2⟩
theorem l_fix6 (P : PS1 u n N K v) (hm : Row f n N) (hn : n ≤ 12) (hF : IsFx n (kdD N n (v 1) (v 2)) F) : lL_law_696 (iZ n) u f 36 (iZ 0) (iZ 0) = some F := by
  obtain ⟨-, hv1, hv2, -⟩ := q_v P
  obtain ⟨⟨-, M, hc⟩, -, -⟩ := id P
  have n2 := M.1
  have s1 := q_set P (i := 1) (by omega) (by omega)
  have s2 := q_set P (i := 2) (by omega) (by omega)
  obtain ⟨r, h1, h2⟩ := lp_up (f := bL_law_696 (iZ n) u f 36) (fun k st => ∃ G : Int32, st = (G, iZ k) ∧ IsFx k (kdD N n (v 1) (v 2)) G) (fun G => IsFx n (kdD N n (v 1) (v 2)) G) (i := 0) (n := n) (by omega) (by
    rintro k st k0 k1 ⟨G, rfl, hG⟩
    have ef := l_fixed hm hc hn k0 k1 hv1.1 hv1.2 (show 0 ≤ v 2 by omega) (show v 2 ≤ 100 by omega)
    have kb := kdD_b N n (v 1) (v 2) k
    by_cases e : kdD N n (v 1) (v 2) k = 0
    · rw [e] at ef
      refine ⟨(G ||| iZ 0, iZ (k + 1)), ?_, G ||| iZ 0, rfl, by rw [or_0]; exact hG.same e⟩
      simp (disch := omega) only [bL_law_696, s1, s2, ef, gd_true, gd_dec, lt_def, bind_s, isb_0, isb_1, iZ_add, iZ_sub, iZ_mul, iZ_neg, lZ_add, lZ_sub, lZ_mul, iZ_lt, iZ_le, iZ_eq, lZ_lt, lZ_le, lZ_eq, iZ_64, iZ_N, inb_Z, if_pos, if_neg, ↓reduceIte, Bool.true_eq_false, Bool.false_eq_true, li7, li8, li12, li14, li34, li35, li36, li40, li101, li0, li1, li2, li3, li4, li5, li6, li9, li10, li16, li20, li23, li24, li25, li31, li33, li44, li48, li49, li50, li51, li57, li59, li60, li63, li69, li70, li71, li72, li74, li99, li100, li119, li126, li250, li296, li297, li298, li299, li300, li301, li302, li303, li606, li1515, li1818, li16384, li1048576, li2147483647, li10000, lj0, lj1, lj10000]
    · refine ⟨(G ||| (iZ 1 <<< (iZ k &&& iZ 31)), iZ (k + 1)), ?_, _, rfl, hG.add k0 (by omega) e⟩
      simp (disch := omega) only [bL_law_696, s1, s2, ef, gd_true, gd_dec, lt_def, bind_s, isb_0, isb_1, iZ_add, iZ_sub, iZ_mul, iZ_neg, lZ_add, lZ_sub, lZ_mul, iZ_lt, iZ_le, iZ_eq, lZ_lt, lZ_le, lZ_eq, iZ_64, iZ_N, inb_Z, if_pos, if_neg, ↓reduceIte, Bool.true_eq_false, Bool.false_eq_true, li7, li8, li12, li14, li34, li35, li36, li40, li101, li0, li1, li2, li3, li4, li5, li6, li9, li10, li16, li20, li23, li24, li25, li31, li33, li44, li48, li49, li50, li51, li57, li59, li60, li63, li69, li70, li71, li72, li74, li99, li100, li119, li126, li250, li296, li297, li298, li299, li300, li301, li302, li303, li606, li1515, li1818, li16384, li1048576, li2147483647, li10000, lj0, lj1, lj10000]) (by
    rintro st ⟨G, rfl, hG⟩
    refine ⟨G, ?_, hG⟩
    simp (disch := omega) only [bL_law_696, gd_true, gd_dec, lt_def, bind_s, isb_0, isb_1, iZ_add, iZ_sub, iZ_mul, iZ_neg, lZ_add, lZ_sub, lZ_mul, iZ_lt, iZ_le, iZ_eq, lZ_lt, lZ_le, lZ_eq, iZ_64, iZ_N, inb_Z, if_pos, if_neg, ↓reduceIte, Bool.true_eq_false, Bool.false_eq_true, li7, li8, li12, li14, li34, li35, li36, li40, li101, li0, li1, li2, li3, li4, li5, li6, li9, li10, li16, li20, li23, li24, li25, li31, li33, li44, li48, li49, li50, li51, li57, li59, li60, li63, li69, li70, li71, li72, li74, li99, li100, li119, li126, li250, li296, li297, li298, li299, li300, li301, li302, li303, li606, li1515, li1818, li16384, li1048576, li2147483647, li10000, lj0, lj1, lj10000]) (s := (iZ 0, iZ 0)) ⟨iZ 0, rfl, IsFx.z _⟩
  rw [hF.uniq h2]
  exact h1
/-! the branches of a turn -/
def LI (n : Int) (K : Int32) (u : ShS) (hs : HS) (f : Nat → Int32) : Prop := (2 ≤ n ∧ n ≤ 10) ∧ HI hs ∧ ∃ (N : Int → Int) (v : Int → Int), PS1 u n N K v ∧ Row f n N
def SO (x : Option (Int32 × Int32 × ShS × PS × HS × (Nat → Int32))) : Prop := ∃ (n' : Int) (K' : Int32) (u' : ShS) (ps' : PS) (hs' : HS) (f' : Nat → Int32), x = some (iZ n', K', u', ps', hs', f') ∧ LI n' K' u' hs' f'
variable {ps : PS} {how : Int}
theorem s825 (L : LI n K u hs f) (h0 : 0 ≤ how) (h1 : how < 12) : SO (sL_law_825 (iZ n) K (iZ how) 36 u ps hs f) := by
  obtain ⟨hn, H, N, v, P, hm⟩ := id L
  unfold sL_law_825
  by_cases c : how = 11
  · subst c
    obtain ⟨⟨-, M, hc⟩, -, -⟩ := id P
    obtain ⟨u', hs', m', e1, eu, g1, H'⟩ := i_bake P H
    obtain ⟨f1, e2, g2⟩ := l_bakeR (K := K) hm ⟨by omega, by omega⟩
    obtain ⟨N', r1, r2, c'⟩ := sel_row hc M g1 g2
    have hk := M.cnt
    have P' : PS1 u' (cK K n) N' (allK (cK K n)) v := by
      rw [eu]
      exact P.upd r1 (MK_all (by omega)) c'
    have e3 := i_bakeI (hs := hs') P'
    refine ⟨cK K n, allK (cK K n), u', ps, hs', f1, ?_, ⟨by omega, H', N', v, P', r2⟩⟩
    rw [if_pos (show iZ 11 = 11 from rfl)]
    have e2 : lL_law_838 (iZ n) K 36 0 0 f = some (iZ (cK K n), f1) := e2
    have e1 : fL_bake 0 u hs = some (iZ (n - cK K n), u', hs') := e1
    have e3 : fL_bake (-1) u' hs' = some ((-31), u', hs') := e3
    refine bI e2 ?_
    refine bI e1 ?_
    refine iT (show iZ (n - cK K n) = iZ n - iZ (cK K n) by rw [iZ_sub]) ?_
    refine bI e3 ?_
    refine iT rfl ?_
    rfl
  · refine ⟨n, K, u, ps, hs, f, ?_, L⟩
    have : ¬ iZ how = 11 := by
      rw [show (11 : Int32) = iZ 11 from rfl, iZ_eq (by omega) (by omega) (by omega) (by omega)]
      exact c
    rw [if_neg this]
theorem bit01 (x : Int32) : ∃ b : Int, (x >>> ((5 : Int32) &&& 31)) &&& 1 = iZ b ∧ (b = 0 ∨ b = 1) := by
  have h := hb_v (K := x) (k := 5) (by omega) (by omega)
  refine ⟨if hb x 5 then 1 else 0, h, ?_⟩
  cases hb x 5
  · exact Or.inl rfl
  · exact Or.inr rfl
theorem s683 (L : LI n K u hs f) (h0 : 0 ≤ how) (h1 : how < 12) (x : Int32) : SO (sL_law_683 (iZ n) K x (iZ how) 36 u ps hs f) := by
  obtain ⟨hn, H, N, v, P, hm⟩ := id L
  unfold sL_law_683
  by_cases c : 11 ≤ how
  · have : (11 : Int32) ≤ iZ how := by
      rw [show (11 : Int32) = iZ 11 from rfl, iZ_le (by omega) (by omega) (by omega) (by omega)]
      exact c
    rw [if_pos this]
    exact s825 L h0 h1
  · have : ¬ (11 : Int32) ≤ iZ how := by
      rw [show (11 : Int32) = iZ 11 from rfl, iZ_le (by omega) (by omega) (by omega) (by omega)]
      exact c
    rw [if_neg this]
    obtain ⟨⟨-, M, hc⟩, -, -⟩ := id P
    obtain ⟨hv0, -⟩ := q_v P
    obtain ⟨F, hF, -, MF⟩ := q_fix P
    have e1 : lL_law_696 (iZ n) u f 36 0 0 = some F := l_fix6 P hm (by omega) hF
    obtain ⟨b, eb, hb01⟩ := bit01 x
    have hw : 0 ≤ b ∧ b ≤ 1 := by omega
    obtain ⟨u', ps', hs', e2, P', H'⟩ := i_simp P H (by omega) hF hw ps
    have e2 : fL_simplify 0 (iZ b) u ps hs = some (iZ (cnt N n F b (v 0)), u', ps', hs') := e2
    have e3 : fL_simplify 0 2 u' ps' hs' = some ((-32), u', ps', hs') := i_simpA P' ps'
    have e4 : fL_simplify 1 0 u' ps' hs' = some ((-31), u', ps', hs') := i_simpI P' ps'
    have e5 : fX5_setting 0 u = some (iZ (v 0)) := q_set P (i := 0) (by omega) (by omega)
    have e6 := l_onS hm hc hn hv0.1 hv0.2 MF b
    have e7 : ((if iZ b = 0 then ((fX5_setting 0 u).bind fun r1127 => (fL_split (iZ n) F r1127 36 f).bind fun r1128 => some r1128) else ((fX5_setting 0 u).bind fun r1125 => (fL_fewest (iZ n) F r1125 36 f).bind fun r1126 => some r1126)) : Option Int32) = some (simS N n F b (v 0)) := by
      rw [e5, bind_s, bind_s]
      rcases hb01 with rfl | rfl
      · rw [if_pos (show iZ 0 = 0 from rfl), (l_spl hm hc (by omega) hv0.1 hv0.2 MF).1]
        rfl
      · rw [if_neg (show ¬ iZ 1 = 0 by decide), (l_few hm hc hn hv0.1 hv0.2 MF).1]
        rfl
    refine ⟨n, simS N n F b (v 0), u', ps', hs', f, ?_, ⟨hn, H', N, v, P', hm⟩⟩
    rw [e1, bind_s, eb, e7, bind_s, e2, bind_s]
    show ((fL_ones (simS N n F b (v 0))).bind fun r1134 => if iZ (cnt N n F b (v 0)) = r1134 then _ else none) = _
    rw [e6, bind_s, if_pos rfl, e3, bind_s]
    show (if ((-32) : Int32) = (-32) then _ else none) = _
    rw [if_pos rfl, e4, bind_s]
    show (if ((-31) : Int32) = (-31) then _ else none) = _
    rw [if_pos rfl]
theorem s560 (L : LI n K u hs f) (h0 : 0 ≤ how) (h1 : how < 12) (x y : Int32) : SO (sL_law_560 (iZ n) K x y (iZ how) 36 u ps hs f) := by
  obtain ⟨hn, H, N, v, P, hm⟩ := id L
  unfold sL_law_560
  by_cases c : how = 7
  · subst c
    rw [if_pos (show iZ 7 = 7 from rfl)]
    obtain ⟨i, e1, i0, i1⟩ := l_low y (n := 4) (by omega) (by omega)
    have e1 : fL_low y 4 = some (iZ i) := e1
    obtain ⟨w, e2, w0, w1⟩ : ∃ w : Int, ((if iZ i = 0 then ((fL_low (y >>> ((2 : Int32) &&& 31)) 12).bind fun r2109 => some r2109) else (if iZ i = 2 then ((fL_low (y >>> ((2 : Int32) &&& 31)) 20).bind fun r2108 => some (1 + r2108)) else ((fL_low (y >>> ((2 : Int32) &&& 31)) 101).bind fun r2107 => some r2107))) : Option Int32) = some (iZ w) ∧ vlo i ≤ w ∧ w ≤ vhi i := by
      unfold vlo vhi
      by_cases c0 : i = 0
      · subst c0
        obtain ⟨r, h, r0, r1⟩ := l_low (y >>> ((2 : Int32) &&& 31)) (n := 12) (by omega) (by omega)
        have h : fL_low (y >>> ((2 : Int32) &&& 31)) 12 = some (iZ r) := h
        refine ⟨r, ?_, ?_, ?_⟩
        · rw [if_pos (show iZ 0 = 0 from rfl), h]
          rfl
        · rw [if_neg (by omega)]; exact r0
        · rw [if_pos rfl]; omega
      · have n0 : ¬ iZ i = 0 := by
          rw [li0, iZ_eq (by omega) (by omega) (by omega) (by omega)]
          exact c0
        by_cases c2 : i = 2
        · subst c2
          obtain ⟨r, h, r0, r1⟩ := l_low (y >>> ((2 : Int32) &&& 31)) (n := 20) (by omega) (by omega)
          have h : fL_low (y >>> ((2 : Int32) &&& 31)) 20 = some (iZ r) := h
          refine ⟨1 + r, ?_, ?_, ?_⟩
          · rw [if_neg n0, if_pos (show iZ 2 = 2 from rfl), h, bind_s, li1, iZ_add]
          · rw [if_pos rfl]; omega
          · rw [if_neg (by omega), if_pos rfl]; omega
        · have n2 : ¬ iZ i = 2 := by
            rw [li2, iZ_eq (by omega) (by omega) (by omega) (by omega)]
            exact c2
          obtain ⟨r, h, r0, r1⟩ := l_low (y >>> ((2 : Int32) &&& 31)) (n := 101) (by omega) (by omega)
          have h : fL_low (y >>> ((2 : Int32) &&& 31)) 101 = some (iZ r) := h
          refine ⟨r, ?_, ?_, ?_⟩
          · rw [if_neg n0, if_neg n2, h]
            rfl
          · rw [if_neg c2]; exact r0
          · rw [if_neg c0, if_neg c2]; omega
    have e3 := q_set P i0 i1
    obtain ⟨u', hs', v', e4, P', H'⟩ := i_set P H i0 i1 w0 w1
    have e5 : fL_set 2 0 u' hs' = some ((-32), u', hs') := i_setA (i := 2) (x := 0) P' (by omega) (by omega) (by omega) (by decide)
    have e6 : fL_set 4 0 u' hs' = some ((-31), u', hs') := i_setI (x := 0) P'
    have e7 : fL_set 0 51 u' hs' = some ((-32), u', hs') := i_setA (i := 0) (x := 51) P' (by omega) (by omega) (by omega) (by decide)
    refine ⟨n, K, u', ps, hs', f, ?_, ⟨hn, H', N, v', P', hm⟩⟩
    rw [e1, bind_s, e2, bind_s, e3, bind_s, e4, bind_s]
    show (if iZ (v i) = iZ (v i) then _ else none) = _
    rw [if_pos rfl, e5, bind_s]
    show (if ((-32) : Int32) = (-32) then _ else none) = _
    rw [if_pos rfl, e6, bind_s]
    show (if ((-31) : Int32) = (-31) then _ else none) = _
    rw [if_pos rfl, e7, bind_s]
    show (if ((-32) : Int32) = (-32) then _ else none) = _
    rw [if_pos rfl]
  · have : ¬ iZ how = 7 := by
      rw [li7, iZ_eq (by omega) (by omega) (by omega) (by omega)]
      exact c
    rw [if_neg this]
    exact s683 L h0 h1 x
theorem s441 (L : LI n K u hs f) (h0 : 0 ≤ how) (h1 : how < 12) (x y : Int32) {i : Int} (i0 : 0 ≤ i) (i1 : i ≤ n) : SO (sL_law_441 (iZ n) K x y (iZ how) (iZ i) 36 u ps hs f) := by
  obtain ⟨hn, H, N, v, P, hm⟩ := id L
  unfold sL_law_441
  by_cases c : how = 6
  · subst c
    rw [if_pos (show iZ 6 = 6 from rfl)]
    by_cases ci : n ≤ i
    · rw [if_pos (show iZ n ≤ iZ i by rw [iZ_le (by omega) (by omega) (by omega) (by omega)]; exact ci)]
      exact s560 L h0 h1 x y
    · rw [if_neg (show ¬ iZ n ≤ iZ i by rw [iZ_le (by omega) (by omega) (by omega) (by omega)]; exact ci)]
      by_cases c2 : n = 2
      · subst c2
        have e1 : fL_remove 0 (iZ i) u hs = some ((-33), u, hs) := i_remS P i0 (by omega)
        refine ⟨2, K, u, ps, hs, f, ?_, L⟩
        refine bI (a := (u, hs)) ((if_pos (show iZ 2 = 2 from rfl)).trans (bI e1 (iT rfl rfl))) ?_
        refine iT (show iZ 2 ≤ 2 by decide) ?_
        rfl
      · have g1 : ¬ iZ n = 2 := by
          rw [li2, iZ_eq (by omega) (by omega) (by omega) (by omega)]
          exact c2
        have g2 : ¬ iZ n ≤ 2 := by
          rw [li2, iZ_le (by omega) (by omega) (by omega) (by omega)]
          omega
        obtain ⟨u', hs', e1, P', H'⟩ := i_rem P H (by omega) i0 (by omega)
        obtain ⟨f1, e2, r2⟩ := l_delR hm ⟨by omega, by omega⟩ i0 (by omega)
        have e1 : fL_remove 0 (iZ i) u hs = some (iZ (n - 1), u', hs') := e1
        have e3 : fL_remove 1 0 u' hs' = some ((-31), u', hs') := i_remI (i := 0) P'
        have en : iZ n + (-1) = iZ (n - 1) := by
          rw [li1, iZ_neg, iZ_add]
          rfl
        refine ⟨n - 1, allK (n - 1), u', ps, hs', f1, ?_, ⟨by omega, H', _, v, P', r2⟩⟩
        refine bI (a := (u, hs)) (if_neg g1) ?_
        refine iF g2 ?_
        refine bI e2 ?_
        refine bI e1 ?_
        refine iT en.symm ?_
        refine bI e3 ?_
        refine iT rfl ?_
        show some (iZ n + -1, ((1 : Int32) <<< ((iZ n + -1) &&& 31)) - 1, u', ps, hs', f1) = _
        rw [en]
        rfl
  · have : ¬ iZ how = 6 := by
      rw [li6, iZ_eq (by omega) (by omega) (by omega) (by omega)]
      exact c
    rw [if_neg this]
    exact s560 L h0 h1 x y
variable {at' to' wd : Int}
theorem s332 (L : LI n K u hs f) (h0 : 0 ≤ how) (h1 : how < 12) (x y : Int32) {i : Int} (i0 : 0 ≤ i) (i1 : i ≤ n) (hx : inP at' to') (hw : 1 ≤ wd ∧ wd ≤ 20) : SO (sL_law_332 (iZ n) K x y (iZ how) (iZ at') (iZ to') (iZ wd) (iZ i) 36 u ps hs f) := by
  obtain ⟨hn, H, N, v, P, hm⟩ := id L
  unfold sL_law_332
  by_cases c : 6 ≤ how
  · rw [if_pos (show (6 : Int32) ≤ iZ how by rw [li6, iZ_le (by omega) (by omega) (by omega) (by omega)]; exact c)]
    exact s441 L h0 h1 x y i0 i1
  · rw [if_neg (show ¬ (6 : Int32) ≤ iZ how by rw [li6, iZ_le (by omega) (by omega) (by omega) (by omega)]; exact c)]
    by_cases ci : n ≤ i
    · rw [if_pos (show iZ n ≤ iZ i by rw [iZ_le (by omega) (by omega) (by omega) (by omega)]; exact ci)]
      exact s441 L h0 h1 x y i0 i1
    · rw [if_neg (show ¬ iZ n ≤ iZ i by rw [iZ_le (by omega) (by omega) (by omega) (by omega)]; exact ci)]
      obtain ⟨⟨-, M, hc⟩, -, -⟩ := id P
      obtain ⟨u', hs', e1, P', H'⟩ := i_chg P H i0 (by omega) hx hw
      have e1 : fL_change 0 (iZ i) (iZ at') (iZ to') (iZ wd) u hs = some (iZ (100 * N (3 * i) + N (3 * i + 1)), u', hs') := e1
      have e2 : fL_change 0 (iZ n) (iZ at') (iZ to') (iZ wd) u' hs' = some ((-31), u', hs') := i_chgI P' (Int.le_refl n) (by omega)
      have e3 : fL_change 0 0 (iZ at') (iZ to') 21 u' hs' = some ((-32), u', hs') := i_chgA (w := 21) P' hx (by omega) (by omega)
      have e4 := l_put (f := f) (k := i) (x := at') (y := to') (w := wd) i0 (by omega)
      have a1 : f (3 * i).toNat = iZ (N (3 * i)) := hm _ (by omega) (by omega)
      have a2 : f (3 * i + 1).toNat = iZ (N (3 * i + 1)) := hm _ (by omega) (by omega)
      refine ⟨n, allK n, u', ps, hs', mup f (3 * i) at' to' wd, ?_, ⟨hn, H', _, v, P', hm.set i0 at' to' wd⟩⟩
      rw [li3, iZ_mul, inb_Z (by omega) (by omega) (by omega), gd_true, li1, iZ_add, inb_Z (by omega) (by omega) (by omega), gd_true, lt_def, e4, bind_s, e1, bind_s, iZ_N (by omega) (by omega), a1, iZ_N (by omega) (by omega), a2, li100, iZ_mul, iZ_add]
      show (if iZ (100 * N (3 * i) + N (3 * i + 1)) = iZ (100 * N (3 * i) + N (3 * i + 1)) then _ else none) = _
      rw [if_pos rfl, e2, bind_s]
      show (if ((-31) : Int32) = (-31) then _ else none) = _
      rw [if_pos rfl, e3, bind_s]
      show (if ((-32) : Int32) = (-32) then _ else none) = _
      rw [if_pos rfl]
      rfl
theorem s197 (L : LI n K u hs f) (h0 : 0 ≤ how) (h1 : how < 12) (x y : Int32) {i : Int} (i0 : 0 ≤ i) (i1 : i ≤ n) (hx : inP at' to') (hw : 1 ≤ wd ∧ wd ≤ 20) : SO (sL_law_197 (iZ n) K x y (iZ how) (iZ at') (iZ to') (iZ wd) (iZ i) 36 u ps hs f) := by
  obtain ⟨hn, H, N, v, P, hm⟩ := id L
  unfold sL_law_197
  by_cases c : 4 ≤ how
  · rw [if_pos (show (4 : Int32) ≤ iZ how by rw [li4, iZ_le (by omega) (by omega) (by omega) (by omega)]; exact c)]
    exact s332 L h0 h1 x y i0 i1 hx hw
  · rw [if_neg (show ¬ (4 : Int32) ≤ iZ how by rw [li4, iZ_le (by omega) (by omega) (by omega) (by omega)]; exact c)]
    by_cases cn : 10 ≤ n
    · rw [if_pos (show (10 : Int32) ≤ iZ n by rw [li10, iZ_le (by omega) (by omega) (by omega) (by omega)]; exact cn)]
      exact s332 L h0 h1 x y i0 i1 hx hw
    · rw [if_neg (show ¬ (10 : Int32) ≤ iZ n by rw [li10, iZ_le (by omega) (by omega) (by omega) (by omega)]; exact cn)]
      obtain ⟨f1, e0, r0⟩ := l_insR hm ⟨by omega, by omega⟩ i0 i1
      obtain ⟨u', hs', e1, P', H'⟩ := i_ins P H (by omega) i0 i1 hx hw
      have e1 : fL_insert 0 (iZ i) (iZ at') (iZ to') (iZ wd) u hs = some (iZ (n + 1), u', hs') := e1
      have e2 : fL_insert 0 (iZ (n + 1 + 1)) (iZ at') (iZ to') (iZ wd) u' hs' = some ((-31), u', hs') := i_insI P' (by omega) (by omega)
      have e3 : fL_insert 0 0 (iZ at') 100 (iZ wd) u' hs' = some ((-32), u', hs') := i_insA (y := 100) P' (by have := hx.1; omega) (by omega) (fun q => by have := q.2; omega)
      have e4 := l_put (f := f1) (k := i) (x := at') (y := to') (w := wd) i0 (by omega)
      refine ⟨n + 1, allK (n + 1), u', ps, hs', mup f1 (3 * i) at' to' wd, ?_, ⟨by omega, H', _, v, P', r0 at' to' wd⟩⟩
      rw [e0, bind_s, e4, bind_s, e1, bind_s, li1, iZ_add, iZ_add]
      show (if iZ (n + 1) = iZ (n + 1) then _ else none) = _
      rw [if_pos rfl, e2, bind_s]
      show (if ((-31) : Int32) = (-31) then _ else none) = _
      rw [if_pos rfl, e3, bind_s]
      show (if ((-32) : Int32) = (-32) then _ else none) = _
      rw [if_pos rfl]
      rfl
theorem cell_ok {L : Nat} (hL : L ≤ 260) (xs : Nat → Int32) {k : Int} (k0 : 0 ≤ k) (k1 : k < 1000) : ∃ r : Int32, fL_cell L xs (iZ k) = some r := by
  unfold fL_cell
  have e : Int32.ofNat L = iZ (L : Int) := (Int32.ofInt_eq_ofNat).symm
  rw [e]
  by_cases c : (L : Int) ≤ k
  · rw [if_pos (by rw [iZ_le (by omega) (by omega) (by omega) (by omega)]; exact c)]
    exact ⟨_, rfl⟩
  · rw [if_neg (by rw [iZ_le (by omega) (by omega) (by omega) (by omega)]; exact c), inb_Z k0 (by omega) (by omega), gd_true]
    exact ⟨_, rfl⟩
def TI (t : Nat) (st : Int32 × Int32 × Int32 × ShS × PS × HS × (Nat → Int32)) : Prop := ∃ (n : Int) (K : Int32) (u : ShS) (ps : PS) (hs : HS) (f : Nat → Int32), st = (iZ n, K, iZ (t : Int), u, ps, hs, f) ∧ LI n K u hs f
theorem turn_ok {L : Nat} (hL : L ≤ 260) (xs : Nat → Int32) {t : Nat} (ht : t < 34) {st : Int32 × Int32 × Int32 × ShS × PS × HS × (Nat → Int32)} (h : TI t st) : ∃ st', bL_law_69 36 L xs st = some (.inl st') ∧ TI (t + 1) st' := by
  obtain ⟨n, K, u, ps, hs, f, rfl, Li⟩ := h
  have hn := Li.1
  obtain ⟨r25, c1⟩ := cell_ok hL xs (k := 2 * (t : Int)) (by omega) (by omega)
  obtain ⟨r26, c2⟩ := cell_ok hL xs (k := 2 * (t : Int) + 1) (by omega) (by omega)
  obtain ⟨how, e3, h0, h1⟩ : ∃ how : Int, ((if (6 : Int32) ≤ iZ (t : Int) then ((fL_low r25 12).bind fun r30 => some r30) else (some 0)) : Option Int32) = some (iZ how) ∧ 0 ≤ how ∧ how < 12 := by
    obtain ⟨r, h, r0, r1⟩ := l_low r25 (n := 12) (by omega) (by omega)
    have h : fL_low r25 12 = some (iZ r) := h
    by_cases c : (6 : Int32) ≤ iZ (t : Int)
    · exact ⟨r, by rw [if_pos c, h]; rfl, r0, r1⟩
    · exact ⟨0, by rw [if_neg c]; rfl, by omega, by omega⟩
  obtain ⟨a, e4, a0, a1⟩ := l_low r26 (n := 100) (by omega) (by omega)
  have e4 : fL_low r26 100 = some (iZ a) := e4
  obtain ⟨b, e5, b0, b1⟩ : ∃ b : Int, ((if ((r25 >>> ((6 : Int32) &&& 31)) &&& 1) = 0 then ((fL_low (r26 >>> ((7 : Int32) &&& 31)) 100).bind fun r37 => some r37) else ((fL_low (r26 >>> ((7 : Int32) &&& 31)) 7).bind fun r36 => some (((iZ a / 2) + r36) - ((iZ a / 2) + r36) / 100 * 100))) : Option Int32) = some (iZ b) ∧ 0 ≤ b ∧ b ≤ 99 := by
    by_cases c : ((r25 >>> ((6 : Int32) &&& 31)) &&& 1) = 0
    · obtain ⟨r, h, r0, r1⟩ := l_low (r26 >>> ((7 : Int32) &&& 31)) (n := 100) (by omega) (by omega)
      have h : fL_low (r26 >>> ((7 : Int32) &&& 31)) 100 = some (iZ r) := h
      exact ⟨r, by rw [if_pos c, h]; rfl, r0, by omega⟩
    · obtain ⟨r, h, r0, r1⟩ := l_low (r26 >>> ((7 : Int32) &&& 31)) (n := 7) (by omega) (by omega)
      have h : fL_low (r26 >>> ((7 : Int32) &&& 31)) 7 = some (iZ r) := h
      refine ⟨a / 2 + r - (a / 2 + r) / 100 * 100, ?_, by omega, by omega⟩
      rw [if_neg c, h, bind_s, li2, iZ_div a0 (by omega) (by omega) (by omega), iZ_add, li100, iZ_div (by omega) (by omega) (by omega) (by omega), iZ_mul, iZ_sub]
  obtain ⟨w, e6, w0, w1⟩ := l_low (r26 >>> ((14 : Int32) &&& 31)) (n := 20) (by omega) (by omega)
  have e6 : fL_low (r26 >>> ((14 : Int32) &&& 31)) 20 = some (iZ w) := e6
  obtain ⟨i, e7, i0, i1⟩ := l_low (r25 >>> ((8 : Int32) &&& 31)) (n := n + 1) (by omega) (by omega)
  obtain ⟨n', K', u', ps', hs', f', e8, Li'⟩ := s197 (ps := ps) (at' := a) (to' := b) (wd := 1 + w) Li h0 h1 r25 r26 i0 (by omega) ⟨⟨a0, by omega⟩, b0, b1⟩ ⟨by omega, by omega⟩
  obtain ⟨hn', H', N', v', P', hm'⟩ := id Li'
  have e9 : fL_isSo 0 (iZ n') K' 36 u' f' = some 1 := l_so P' hm' hn'.2
  obtain ⟨ps2, e10⟩ := l_ahead P' hm' hn'.2 (r25 >>> ((4 : Int32) &&& 31)) ps'
  have e10 : fL_isAhead 0 (iZ n') (r25 >>> ((4 : Int32) &&& 31)) 36 u' ps' f' = some (1, ps2) := e10
  obtain ⟨ps3, e11⟩ : ∃ ps3 : PS, ((if (iZ (t : Int) - iZ (t : Int) / 4 * 4) = 3 then ((fL_isAhead 0 (iZ n') (r25 >>> ((4 : Int32) &&& 31)) 36 u' ps' f').bind fun q => if q.1 = 0 then none else (some q.2)) else (some ps')) : Option PS) = some ps3 := by
    by_cases c : (iZ (t : Int) - iZ (t : Int) / 4 * 4) = 3
    · refine ⟨ps2, ?_⟩
      rw [if_pos c, e10, bind_s]
      exact if_neg (show ¬ (1 : Int32) = 0 by decide)
    · exact ⟨ps', if_neg c⟩
  refine ⟨(iZ n', K', iZ ((t + 1 : Nat) : Int), u', ps3, hs', f'), ?_, n', K', u', ps3, hs', f', rfl, Li'⟩
  have d1 : ¬ (34 : Int32) ≤ iZ (t : Int) := by
    rw [li34, iZ_le (by omega) (by omega) (by omega) (by omega)]
    omega
  have m1 : (2 : Int32) * iZ (t : Int) = iZ (2 * (t : Int)) := by rw [li2, iZ_mul]
  have m2 : iZ (2 * (t : Int)) + 1 = iZ (2 * (t : Int) + 1) := by rw [li1, iZ_add]
  have m3 : (1 : Int32) + iZ w = iZ (1 + w) := by rw [li1, iZ_add]
  have m4 : iZ n + 1 = iZ (n + 1) := by rw [li1, iZ_add]
  have m5 : iZ (t : Int) + 1 = iZ ((t + 1 : Nat) : Int) := by rw [li1, iZ_add]; rfl
  rw [bL_law_69, if_neg d1, m1, c1, bind_s, m2, c2, bind_s, e3, bind_s, e4, bind_s, e5, bind_s, e6, bind_s, m4, e7, bind_s, m3, e8, bind_s]
  show (fL_isSo 0 (iZ n') K' 36 u' f').bind _ = _
  rw [e9, bind_s, if_neg (show ¬ (1 : Int32) = 0 by decide)]
  show (((if (iZ (t : Int) - iZ (t : Int) / 4 * 4) = 3 then ((fL_isAhead 0 (iZ n') (r25 >>> ((4 : Int32) &&& 31)) 36 u' ps' f').bind fun q => if q.1 = 0 then none else (some q.2)) else (some ps')) : Option PS)).bind _ = _
  rw [e11, bind_s, m5]
theorem whl_ok {σ ρ : Type} {g : σ → Option (σ ⊕ ρ)} (I : Nat → σ → Prop) {M : Nat} (hs : ∀ k s, k < M → I k s → ∃ t, g s = some (.inl t) ∧ I (k + 1) t) (he : ∀ s, I M s → ∃ r, g s = some (.inr r)) : ∀ (d k : Nat) (s : σ), k + d = M → I k s → ∃ r, whl g (d + 1) s = some r := by
  intro d
  induction d with
  | zero =>
    intro k s hk h
    have : k = M := by omega
    subst this
    obtain ⟨r, hr⟩ := he s h
    exact ⟨r, by rw [whl, hr]; rfl⟩
  | succ d ih =>
    intro k s hk h
    obtain ⟨t, ht, h2⟩ := hs k s (by omega) h
    obtain ⟨r, hr⟩ := ih (k + 1) t (by omega) h2
    exact ⟨r, by rw [whl, ht]; exact hr⟩
theorem law_ok {L : Nat} (hL : L ≤ 260) (xs : Nat → Int32) (ps : PS) (f : Nat → Int32) : fL_law 36 L xs ShNew ps H0s f = some () := by
  have p1 := l_put (f := f) (k := 0) (x := 5) (y := 5) (w := 5) (by omega) (by omega)
  have p2 := l_put (f := mup f (3 * 0) 5 5 5) (k := 1) (x := 40) (y := 20) (w := 5) (by omega) (by omega)
  have p1 : fL_put 0 5 5 5 36 f = some (mup f (3 * 0) 5 5 5) := p1
  have p2 : fL_put 1 40 20 5 36 (mup f (3 * 0) 5 5 5) = some (mup (mup f (3 * 0) 5 5 5) (3 * 1) 40 20 5) := p2
  have e1 : fL_stroke 5 5 100 20 ShNew H0s = some ((-32), ShNew, H0s) := i_strA
  obtain ⟨u', hs', e2, P, H⟩ := i_str HI0
  have e2 : fL_stroke 5 5 40 20 ShNew H0s = some (0, u', hs') := e2
  have R0 : Row f 0 (fun _ => 0) := fun j j0 j1 => by omega
  have R1 := R0.add (Int.le_refl 0) 5 5 5
  have R2 : Row (mup (mup f (3 * 0) 5 5 5) (3 * 1) 40 20 5) 2 N0 := R1.add (show (0 : Int) ≤ 0 + 1 by omega) 40 20 5
  obtain ⟨r, hr⟩ := whl_ok (g := bL_law_69 36 L xs) TI (M := 34) (fun k s hk h => turn_ok hL xs hk h) (fun s h => by
    obtain ⟨n, K, u, ps, hs, f, rfl, Li⟩ := h
    refine ⟨(u, ps, hs, f), ?_⟩
    rw [bL_law_69]
    exact if_pos (show (34 : Int32) ≤ iZ ((34 : Nat) : Int) by decide)) 34 0 (2, 3, 0, u', ps, hs', mup (mup f (3 * 0) 5 5 5) (3 * 1) 40 20 5) (by omega) ⟨2, allK 2, u', ps, hs', _, rfl, ⟨by omega, by omega⟩, H, N0, v0, P, R2⟩
  unfold fL_law
  rw [p1, bind_s, p2, bind_s, e1, bind_s]
  show (if ((-32) : Int32) = (-32) then _ else none) = _
  rw [if_pos rfl, e2, bind_s]
  show (if (0 : Int32) = 0 then _ else none) = _
  rw [if_pos rfl, hr, bind_s]
end LG
