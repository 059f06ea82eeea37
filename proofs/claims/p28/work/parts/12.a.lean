/-! p28: the law's own numbers -/
theorem li7 : (7 : Int32) = iZ 7 := rfl
theorem li8 : (8 : Int32) = iZ 8 := rfl
theorem li12 : (12 : Int32) = iZ 12 := rfl
theorem li14 : (14 : Int32) = iZ 14 := rfl
theorem li34 : (34 : Int32) = iZ 34 := rfl
theorem li35 : (35 : Int32) = iZ 35 := rfl
theorem li36 : (36 : Int32) = iZ 36 := rfl
theorem li40 : (40 : Int32) = iZ 40 := rfl
theorem li101 : (101 : Int32) = iZ 101 := rfl
theorem iZ_div {a b : Int} (h0 : 0 ≤ a) (h2 : a < 2147483648) (h3 : 0 < b) (h4 : b < 2147483648) : iZ a / iZ b = iZ (a / b) := by
  have hb : iZ b ≠ -1 := by
    intro h
    have h' := congrArg Int32.toInt h
    rw [iZ_T (by omega) h4] at h'
    have : (-1 : Int32).toInt = -1 := by decide
    omega
  have hd : 0 ≤ a / b ∧ a / b ≤ a := ⟨Int.ediv_nonneg h0 (by omega), Int.ediv_le_self b h0⟩
  rw [← Int32.toInt_inj, Int32.toInt_div_of_ne_right _ _ hb, iZ_T (by omega) h2, iZ_T (by omega) h4, iZ_T (by omega) (by omega), Int.tdiv_eq_ediv_of_nonneg h0]
theorem and_pos (x : Int32) : ∃ a : Int, x &&& 2147483647 = iZ a ∧ 0 ≤ a ∧ a < 2147483648 := by
  refine ⟨(x &&& 2147483647).toInt, iZ_of _, ?_, Int32.toInt_lt _⟩
  have e : (2147483647 : Int32).toBitVec.toNat = 2147483647 := by decide
  have h : (x &&& 2147483647).toBitVec.toNat ≤ 2147483647 := by
    show (x.toBitVec &&& (2147483647 : Int32).toBitVec).toNat ≤ 2147483647
    rw [BitVec.toNat_and, e]
    exact Nat.and_le_right
  show 0 ≤ (x &&& 2147483647).toBitVec.toInt
  rw [BitVec.toInt_eq_toNat_of_lt (by omega)]
  omega
theorem l_low (x : Int32) {n : Int} (n0 : 1 ≤ n) (n1 : n ≤ 1000) : ∃ r : Int, fL_low x (iZ n) = some (iZ r) ∧ 0 ≤ r ∧ r < n := by
  obtain ⟨a, ea, a0, a1⟩ := and_pos x
  refine ⟨a % n, ?_, Int.emod_nonneg _ (by omega), Int.emod_lt_of_pos _ (by omega)⟩
  have e : a - a / n * n = a % n := by rw [Int.emod_def, Int.mul_comm]
  unfold fL_low
  rw [ea, iZ_div a0 a1 (by omega) (by omega)]
  simp (disch := omega) only [e, gd_true, gd_dec, lt_def, bind_s, isb_0, isb_1, iZ_add, iZ_sub, iZ_mul, iZ_neg, lZ_add, lZ_sub, lZ_mul, iZ_lt, iZ_le, iZ_eq, lZ_lt, lZ_le, lZ_eq, iZ_64, iZ_N, inb_Z, if_pos, if_neg, ↓reduceIte, Bool.true_eq_false, Bool.false_eq_true, li7, li8, li12, li14, li34, li35, li36, li40, li101, li0, li1, li2, li3, li4, li5, li6, li9, li10, li16, li20, li23, li24, li25, li31, li33, li44, li48, li49, li50, li51, li57, li59, li60, li63, li69, li70, li71, li72, li74, li99, li100, li119, li126, li250, li296, li297, li298, li299, li300, li301, li302, li303, li606, li1515, li1818, li16384, li1048576, li2147483647, li10000, lj0, lj1, lj10000]
section LA
variable {f : Nat → Int32} {n : Int} {N : Int → Int}
theorem l_prod (hm : Row f n N) (hc : Crd n N) (hn : n ≤ 12) {a b c d : Int} (a0 : 0 ≤ a) (a1 : a < n) (b0 : 0 ≤ b) (b1 : b < n) (c0 : 0 ≤ c) (c1 : c < n) (d0 : 0 ≤ d) (d1 : d < n) : fL_product (iZ a) (iZ b) (iZ c) (iZ d) 36 f = some (lZ (dX N a b * dX N c d + dY N a b * dY N c d)) := by
  have hm : ∀ j : Int, 0 ≤ j → j < 3 * n → f j.toNat = iZ (N j) := hm
  have ex : ∀ a b : Int, N (3 * b) - N (3 * a) = dX N a b := fun _ _ => rfl
  have ey : ∀ a b : Int, N (3 * b + 1) - N (3 * a + 1) = dY N a b := fun _ _ => rfl
  have h1 := dX_b hc a0 a1 b0 b1
  have h2 := dY_b hc a0 a1 b0 b1
  have h3 := dX_b hc c0 c1 d0 d1
  have h4 := dY_b hc c0 c1 d0 d1
  unfold fL_product
  simp (disch := omega) only [hm, ex, ey, gd_true, gd_dec, lt_def, bind_s, isb_0, isb_1, iZ_add, iZ_sub, iZ_mul, iZ_neg, lZ_add, lZ_sub, lZ_mul, iZ_lt, iZ_le, iZ_eq, lZ_lt, lZ_le, lZ_eq, iZ_64, iZ_N, inb_Z, if_pos, if_neg, ↓reduceIte, Bool.true_eq_false, Bool.false_eq_true, li7, li8, li12, li14, li34, li35, li36, li40, li101, li0, li1, li2, li3, li4, li5, li6, li9, li10, li16, li20, li23, li24, li25, li31, li33, li44, li48, li49, li50, li51, li57, li59, li60, li63, li69, li70, li71, li72, li74, li99, li100, li119, li126, li250, li296, li297, li298, li299, li300, li301, li302, li303, li606, li1515, li1818, li16384, li1048576, li2147483647, li10000, lj0, lj1, lj10000]
theorem l_area (hm : Row f n N) (hc : Crd n N) (hn : n ≤ 12) {a b i : Int} (a0 : 0 ≤ a) (a1 : a < n) (b0 : 0 ≤ b) (b1 : b < n) (i0 : 0 ≤ i) (i1 : i < n) : fL_area (iZ a) (iZ b) (iZ i) 36 f = some (lZ (sdD N a b i)) := by
  have hm : ∀ j : Int, 0 ≤ j → j < 3 * n → f j.toNat = iZ (N j) := hm
  have ex : ∀ a b : Int, N (3 * b) - N (3 * a) = dX N a b := fun _ _ => rfl
  have ey : ∀ a b : Int, N (3 * b + 1) - N (3 * a + 1) = dY N a b := fun _ _ => rfl
  have h1 := dX_b hc a0 a1 b0 b1
  have h2 := dY_b hc a0 a1 b0 b1
  have h3 := dX_b hc a0 a1 i0 i1
  have h4 := dY_b hc a0 a1 i0 i1
  unfold fL_area sdD
  simp (disch := omega) only [hm, ex, ey, gd_true, gd_dec, lt_def, bind_s, isb_0, isb_1, iZ_add, iZ_sub, iZ_mul, iZ_neg, lZ_add, lZ_sub, lZ_mul, iZ_lt, iZ_le, iZ_eq, lZ_lt, lZ_le, lZ_eq, iZ_64, iZ_N, inb_Z, if_pos, if_neg, ↓reduceIte, Bool.true_eq_false, Bool.false_eq_true, li7, li8, li12, li14, li34, li35, li36, li40, li101, li0, li1, li2, li3, li4, li5, li6, li9, li10, li16, li20, li23, li24, li25, li31, li33, li44, li48, li49, li50, li51, li57, li59, li60, li63, li69, li70, li71, li72, li74, li99, li100, li119, li126, li250, li296, li297, li298, li299, li300, li301, li302, li303, li606, li1515, li1818, li16384, li1048576, li2147483647, li10000, lj0, lj1, lj10000]
theorem l_sq (hm : Row f n N) (hc : Crd n N) (hn : n ≤ 12) {a b : Int} (a0 : 0 ≤ a) (a1 : a < n) (b0 : 0 ≤ b) (b1 : b < n) : fL_product (iZ a) (iZ b) (iZ a) (iZ b) 36 f = some (lZ (sqD N a b)) := l_prod hm hc hn a0 a1 b0 b1 a0 a1 b0 b1
theorem l_al (hm : Row f n N) (hc : Crd n N) (hn : n ≤ 12) {k a b : Int} (k0 : 0 ≤ k) (k1 : k < n) (a0 : 0 ≤ a) (a1 : a < n) (b0 : 0 ≤ b) (b1 : b < n) : fL_product (iZ a) (iZ k) (iZ a) (iZ b) 36 f = some (lZ (alD N k a b)) := l_prod hm hc hn a0 a1 k0 k1 a0 a1 b0 b1
theorem l_above (hm : Row f n N) (hc : Crd n N) (hn : n ≤ 12) {k a b : Int} (k0 : 0 ≤ k) (k1 : k < n) (a0 : 0 ≤ a) (a1 : a < n) (b0 : 0 ≤ b) (b1 : b < n) : fL_above (iZ k) (iZ a) (iZ b) 36 f = some (lZ (abD N k a b)) := by
  have h1 := alD_b hc k0 k1 a0 a1 b0 b1
  have h2 := sqD_b hc a0 a1 b0 b1
  have e : sdD N a k b = crD N k a b := rfl
  unfold fL_above abD
  simp (disch := omega) only [l_al hm hc hn k0 k1 a0 a1 b0 b1, l_sq hm hc hn a0 a1 b0 b1, l_sq hm hc hn b0 b1 k0 k1, l_sq hm hc hn a0 a1 k0 k1, l_area hm hc hn a0 a1 k0 k1 b0 b1, e, gd_true, gd_dec, lt_def, bind_s, isb_0, isb_1, iZ_add, iZ_sub, iZ_mul, iZ_neg, lZ_add, lZ_sub, lZ_mul, iZ_lt, iZ_le, iZ_eq, lZ_lt, lZ_le, lZ_eq, iZ_64, iZ_N, inb_Z, if_pos, if_neg, ↓reduceIte, Bool.true_eq_false, Bool.false_eq_true, li7, li8, li12, li14, li34, li35, li36, li40, li101, li0, li1, li2, li3, li4, li5, li6, li9, li10, li16, li20, li23, li24, li25, li31, li33, li44, li48, li49, li50, li51, li57, li59, li60, li63, li69, li70, li71, li72, li74, li99, li100, li119, li126, li250, li296, li297, li298, li299, li300, li301, li302, li303, li606, li1515, li1818, li16384, li1048576, li2147483647, li10000, lj0, lj1, lj10000]
  repeat' split
  all_goals rfl
theorem l_below (hm : Row f n N) (hc : Crd n N) (hn : n ≤ 12) {k a b : Int} (k0 : 0 ≤ k) (k1 : k < n) (a0 : 0 ≤ a) (a1 : a < n) (b0 : 0 ≤ b) (b1 : b < n) : fL_below (iZ k) (iZ a) (iZ b) 36 f = some (lZ (beD N k a b)) := by
  have h1 := alD_b hc k0 k1 a0 a1 b0 b1
  have h2 := sqD_b hc a0 a1 b0 b1
  unfold fL_below beD
  simp (disch := omega) only [l_al hm hc hn k0 k1 a0 a1 b0 b1, l_sq hm hc hn a0 a1 b0 b1, gd_true, gd_dec, lt_def, bind_s, isb_0, isb_1, iZ_add, iZ_sub, iZ_mul, iZ_neg, lZ_add, lZ_sub, lZ_mul, iZ_lt, iZ_le, iZ_eq, lZ_lt, lZ_le, lZ_eq, iZ_64, iZ_N, inb_Z, if_pos, if_neg, ↓reduceIte, Bool.true_eq_false, Bool.false_eq_true, li7, li8, li12, li14, li34, li35, li36, li40, li101, li0, li1, li2, li3, li4, li5, li6, li9, li10, li16, li20, li23, li24, li25, li31, li33, li44, li48, li49, li50, li51, li57, li59, li60, li63, li69, li70, li71, li72, li74, li99, li100, li119, li126, li250, li296, li297, li298, li299, li300, li301, li302, li303, li606, li1515, li1818, li16384, li1048576, li2147483647, li10000, lj0, lj1, lj10000]
  by_cases c1 : 0 < alD N k a b
  · rw [if_pos c1, if_neg (show ¬ alD N k a b ≤ 0 by omega)]
    by_cases c2 : alD N k a b < sqD N a b
    · rw [if_pos c2, if_pos c2]
      rfl
    · rw [if_neg c2, if_neg c2]
      rfl
  · rw [if_neg c1, if_pos (show alD N k a b ≤ 0 by omega)]
    rfl
theorem l_root {v : Int} (hv : 0 ≤ v) (hv2 : v < 1099511627776) : fL_root (lZ v) = some (iZ (rt v)) := by
  obtain ⟨r, h1, q, rfl, h2⟩ := lp_mu (f := bL_root_5 (lZ v)) (fun st => ∃ a b : Int, st = (iZ a, iZ b) ∧ 0 ≤ a ∧ a < b ∧ b ≤ 1048576 ∧ a * a ≤ v ∧ v < b * b) (fun st => (st.2.toInt - st.1.toInt).toNat) (fun r => ∃ q : Int, r = iZ q ∧ IsRt v q) (by
    rintro st ⟨a, b, rfl, a0, ab, b1, ha, hb⟩
    by_cases c : b - a ≤ 1
    · refine Or.inr ⟨iZ a, ?_, a, rfl, a0, ha, ?_⟩
      · simp (disch := omega) only [bL_root_5, gd_true, gd_dec, lt_def, bind_s, isb_0, isb_1, iZ_add, iZ_sub, iZ_mul, iZ_neg, lZ_add, lZ_sub, lZ_mul, iZ_lt, iZ_le, iZ_eq, lZ_lt, lZ_le, lZ_eq, iZ_64, iZ_N, inb_Z, if_pos, if_neg, ↓reduceIte, Bool.true_eq_false, Bool.false_eq_true, li7, li8, li12, li14, li34, li35, li36, li40, li101, li0, li1, li2, li3, li4, li5, li6, li9, li10, li16, li20, li23, li24, li25, li31, li33, li44, li48, li49, li50, li51, li57, li59, li60, li63, li69, li70, li71, li72, li74, li99, li100, li119, li126, li250, li296, li297, li298, li299, li300, li301, li302, li303, li606, li1515, li1818, li16384, li1048576, li2147483647, li10000, lj0, lj1, lj10000]
      · have : b = a + 1 := by omega
        rw [← this]
        exact hb
    · obtain ⟨m, hm⟩ : ∃ m : Int, m = (a + b) / 2 := ⟨_, rfl⟩
      have m0 : a < m ∧ m < b := by omega
      have mm := mbd (a := m) (b := m) 1048576 1048576 1099511627776 (by omega) (by omega) rfl
      have e := sh1 (b := a + b) (by omega) (by omega)
      rw [← hm] at e
      refine Or.inl ?_
      by_cases c2 : v < m * m
      · refine ⟨(iZ a, iZ m), ?_, ⟨a, m, rfl, a0, m0.1, by omega, ha, c2⟩, ?_⟩
        · simp (disch := omega) only [bL_root_5, e, gd_true, gd_dec, lt_def, bind_s, isb_0, isb_1, iZ_add, iZ_sub, iZ_mul, iZ_neg, lZ_add, lZ_sub, lZ_mul, iZ_lt, iZ_le, iZ_eq, lZ_lt, lZ_le, lZ_eq, iZ_64, iZ_N, inb_Z, if_pos, if_neg, ↓reduceIte, Bool.true_eq_false, Bool.false_eq_true, li7, li8, li12, li14, li34, li35, li36, li40, li101, li0, li1, li2, li3, li4, li5, li6, li9, li10, li16, li20, li23, li24, li25, li31, li33, li44, li48, li49, li50, li51, li57, li59, li60, li63, li69, li70, li71, li72, li74, li99, li100, li119, li126, li250, li296, li297, li298, li299, li300, li301, li302, li303, li606, li1515, li1818, li16384, li1048576, li2147483647, li10000, lj0, lj1, lj10000]
        · show ((iZ m).toInt - (iZ a).toInt).toNat < ((iZ b).toInt - (iZ a).toInt).toNat
          rw [iZ_T (by omega) (by omega), iZ_T (by omega) (by omega), iZ_T (by omega) (by omega)]
          omega
      · refine ⟨(iZ m, iZ b), ?_, ⟨m, b, rfl, by omega, m0.2, b1, by omega, hb⟩, ?_⟩
        · simp (disch := omega) only [bL_root_5, e, gd_true, gd_dec, lt_def, bind_s, isb_0, isb_1, iZ_add, iZ_sub, iZ_mul, iZ_neg, lZ_add, lZ_sub, lZ_mul, iZ_lt, iZ_le, iZ_eq, lZ_lt, lZ_le, lZ_eq, iZ_64, iZ_N, inb_Z, if_pos, if_neg, ↓reduceIte, Bool.true_eq_false, Bool.false_eq_true, li7, li8, li12, li14, li34, li35, li36, li40, li101, li0, li1, li2, li3, li4, li5, li6, li9, li10, li16, li20, li23, li24, li25, li31, li33, li44, li48, li49, li50, li51, li57, li59, li60, li63, li69, li70, li71, li72, li74, li99, li100, li119, li126, li250, li296, li297, li298, li299, li300, li301, li302, li303, li606, li1515, li1818, li16384, li1048576, li2147483647, li10000, lj0, lj1, lj10000]
        · show ((iZ b).toInt - (iZ m).toInt).toNat < ((iZ b).toInt - (iZ a).toInt).toNat
          rw [iZ_T (by omega) (by omega), iZ_T (by omega) (by omega), iZ_T (by omega) (by omega)]
          omega) (iZ 0, iZ 1048576) ⟨0, 1048576, rfl, by omega, by omega, by omega, by omega, by omega⟩
  rw [rt_of h2]
  unfold fL_root lL_root_5
  have h1 : lp (bL_root_5 (lZ v)) (0, 1048576) = some (iZ q) := h1
  rw [h1, bind_s]
theorem l_hund (hm : Row f n N) (hc : Crd n N) (hn : n ≤ 12) {k a b : Int} (k0 : 0 ≤ k) (k1 : k < n) (a0 : 0 ≤ a) (a1 : a < n) (b0 : 0 ≤ b) (b1 : b < n) : fL_hundredths (iZ k) (iZ a) (iZ b) 36 f = some (iZ (hD N k a b)) := by
  have h1 := abD_b hc k0 k1 a0 a1 b0 b1
  have h2 := beD_b (k := k) hc a0 a1 b0 b1
  have h3 := hv_b hc k0 k1 a0 a1 b0 b1
  have e := lZ_div (a := 10000 * abD N k a b) (b := beD N k a b) (by omega) (by omega) (by omega) (by omega)
  unfold fL_hundredths hD
  simp (disch := omega) only [l_above hm hc hn k0 k1 a0 a1 b0 b1, l_below hm hc hn k0 k1 a0 a1 b0 b1, e, gd_true, gd_dec, lt_def, bind_s, isb_0, isb_1, iZ_add, iZ_sub, iZ_mul, iZ_neg, lZ_add, lZ_sub, lZ_mul, iZ_lt, iZ_le, iZ_eq, lZ_lt, lZ_le, lZ_eq, iZ_64, iZ_N, inb_Z, if_pos, if_neg, ↓reduceIte, Bool.true_eq_false, Bool.false_eq_true, li7, li8, li12, li14, li34, li35, li36, li40, li101, li0, li1, li2, li3, li4, li5, li6, li9, li10, li16, li20, li23, li24, li25, li31, li33, li44, li48, li49, li50, li51, li57, li59, li60, li63, li69, li70, li71, li72, li74, li99, li100, li119, li126, li250, li296, li297, li298, li299, li300, li301, li302, li303, li606, li1515, li1818, li16384, li1048576, li2147483647, li10000, lj0, lj1, lj10000]
  rw [l_root (by omega) (by omega), bind_s]
theorem l_sharp (hm : Row f n N) (hc : Crd n N) (hn : n ≤ 12) {a k b lim : Int} (a0 : 0 ≤ a) (a1 : a < n) (k0 : 0 ≤ k) (k1 : k < n) (b0 : 0 ≤ b) (b1 : b < n) (l0 : 0 ≤ lim) (l1 : lim ≤ 100) : fL_isSharp (iZ a) (iZ k) (iZ b) (iZ lim) 36 f = some (iZ (bi (shB N a k b lim))) := by
  have h1 := prD_b hc a0 a1 k0 k1 b0 b1
  have h2 := sqD_b hc a0 a1 k0 k1
  have h3 := sqD_b hc k0 k1 b0 b1
  have h4 := mbd 19602 19602 384238404 (a := sqD N a k) (b := sqD N k b) (by omega) (by omega) rfl
  have h5 := mbd 19602 19602 384238404 h1 h1 rfl
  have h6 := mbd 100 100 10000 (a := lim) (b := lim) (by omega) (by omega) rfl
  have h7 := mbd 10000 384238404 3842384040000 h6 h4 rfl
  have ep : fL_product (iZ a) (iZ k) (iZ k) (iZ b) 36 f = some (lZ (prD N a k b)) := l_prod hm hc hn a0 a1 k0 k1 k0 k1 b0 b1
  have e1 : sqD N a k * sqD N k b * lim * lim = lim * lim * (sqD N a k * sqD N k b) := by rw [Int.mul_assoc, Int.mul_comm]
  have e2 : 10000 * prD N a k b * prD N a k b = prD N a k b * prD N a k b * 10000 := by rw [Int.mul_assoc, Int.mul_comm]
  have h8 : 0 ≤ sqD N a k * sqD N k b := Int.mul_nonneg h2.1 h3.1
  unfold fL_isSharp
  simp (disch := omega) only [ep, l_sq hm hc hn a0 a1 k0 k1, l_sq hm hc hn k0 k1 b0 b1, e1, e2, gd_true, gd_dec, lt_def, bind_s, isb_0, isb_1, iZ_add, iZ_sub, iZ_mul, iZ_neg, lZ_add, lZ_sub, lZ_mul, iZ_lt, iZ_le, iZ_eq, lZ_lt, lZ_le, lZ_eq, iZ_64, iZ_N, inb_Z, if_pos, if_neg, ↓reduceIte, Bool.true_eq_false, Bool.false_eq_true, li7, li8, li12, li14, li34, li35, li36, li40, li101, li0, li1, li2, li3, li4, li5, li6, li9, li10, li16, li20, li23, li24, li25, li31, li33, li44, li48, li49, li50, li51, li57, li59, li60, li63, li69, li70, li71, li72, li74, li99, li100, li119, li126, li250, li296, li297, li298, li299, li300, li301, li302, li303, li606, li1515, li1818, li16384, li1048576, li2147483647, li10000, lj0, lj1, lj10000]
  unfold shB
  by_cases c1 : prD N a k b < 0
  · rw [if_pos c1, if_pos c1]
    rfl
  · rw [if_neg c1, if_neg c1]
    by_cases c2 : sqD N a k * sqD N k b = 0
    · rw [if_pos c2, if_pos (show sqD N a k * sqD N k b ≤ 0 by omega)]
      rfl
    · rw [if_neg c2, if_neg (show ¬ sqD N a k * sqD N k b ≤ 0 by omega)]
      split
      all_goals rfl
theorem l_fixed (hm : Row f n N) (hc : Crd n N) (hn : n ≤ 12) {k c w : Int} (k0 : 0 ≤ k) (k1 : k < n) (c0 : 0 ≤ c) (c1 : c ≤ 100) (w0 : 0 ≤ w) (w1 : w ≤ 100) : fL_fixed (iZ n) (iZ k) (iZ c) (iZ w) 36 f = some (iZ (kdD N n c w k)) := by
  have hm' : ∀ j : Int, 0 ≤ j → j < 3 * n → f j.toNat = iZ (N j) := hm
  unfold fL_fixed kdD
  by_cases h0 : k = 0
  · subst h0
    simp (disch := omega) only [gd_true, gd_dec, lt_def, bind_s, isb_0, isb_1, iZ_add, iZ_sub, iZ_mul, iZ_neg, lZ_add, lZ_sub, lZ_mul, iZ_lt, iZ_le, iZ_eq, lZ_lt, lZ_le, lZ_eq, iZ_64, iZ_N, inb_Z, if_pos, if_neg, ↓reduceIte, Bool.true_eq_false, Bool.false_eq_true, li7, li8, li12, li14, li34, li35, li36, li40, li101, li0, li1, li2, li3, li4, li5, li6, li9, li10, li16, li20, li23, li24, li25, li31, li33, li44, li48, li49, li50, li51, li57, li59, li60, li63, li69, li70, li71, li72, li74, li99, li100, li119, li126, li250, li296, li297, li298, li299, li300, li301, li302, li303, li606, li1515, li1818, li16384, li1048576, li2147483647, li10000, lj0, lj1, lj10000]
  · by_cases h1 : k = n - 1
    · subst h1
      simp (disch := omega) only [h0, gd_true, gd_dec, lt_def, bind_s, isb_0, isb_1, iZ_add, iZ_sub, iZ_mul, iZ_neg, lZ_add, lZ_sub, lZ_mul, iZ_lt, iZ_le, iZ_eq, lZ_lt, lZ_le, lZ_eq, iZ_64, iZ_N, inb_Z, if_pos, if_neg, ↓reduceIte, Bool.true_eq_false, Bool.false_eq_true, li7, li8, li12, li14, li34, li35, li36, li40, li101, li0, li1, li2, li3, li4, li5, li6, li9, li10, li16, li20, li23, li24, li25, li31, li33, li44, li48, li49, li50, li51, li57, li59, li60, li63, li69, li70, li71, li72, li74, li99, li100, li119, li126, li250, li296, li297, li298, li299, li300, li301, li302, li303, li606, li1515, li1818, li16384, li1048576, li2147483647, li10000, lj0, lj1, lj10000]
    · have e1 := hm' (3 * k - 1) (by omega) (by omega)
      have e2 := hm' (3 * k + 5) (by omega) (by omega)
      have e3 := hm' (3 * k + 2) (by omega) (by omega)
      have g1 := (hc (k - 1) (by omega) (by omega)).2.2
      have g2 := (hc (k + 1) (by omega) (by omega)).2.2
      have g3 := (hc k (by omega) (by omega)).2.2
      rw [show 3 * (k - 1) + 2 = 3 * k - 1 by omega] at g1
      rw [show 3 * (k + 1) + 2 = 3 * k + 5 by omega] at g2
      have es := l_sharp hm hc hn (a := k - 1) (k := k) (b := k + 1) (lim := c) (by omega) (by omega) k0 k1 (by omega) (by omega) c0 c1
      rw [if_neg h0, if_neg h1]
      unfold thB
      rw [show 3 * (k - 1) + 2 = 3 * k - 1 by omega, show 3 * (k + 1) + 2 = 3 * k + 5 by omega]
      by_cases d1 : N (3 * k + 5) ≤ N (3 * k - 1)
      · cases hs : shB N (k - 1) k (k + 1) c with
        | true =>
          rw [hs] at es
          have es : fL_isSharp (iZ (k - 1)) (iZ k) (iZ (k + 1)) (iZ c) 36 f = some (iZ 1) := es
          by_cases d2 : N (3 * k + 5) < N (3 * k + 2) + w
          · by_cases d3 : N (3 * k - 1) < N (3 * k + 2) + w
            · simp (disch := omega) only [h0, h1, e1, e2, e3, es, d1, d2, d3, gd_true, gd_dec, lt_def, bind_s, isb_0, isb_1, iZ_add, iZ_sub, iZ_mul, iZ_neg, lZ_add, lZ_sub, lZ_mul, iZ_lt, iZ_le, iZ_eq, lZ_lt, lZ_le, lZ_eq, iZ_64, iZ_N, inb_Z, if_pos, if_neg, ↓reduceIte, Bool.true_eq_false, Bool.false_eq_true, li7, li8, li12, li14, li34, li35, li36, li40, li101, li0, li1, li2, li3, li4, li5, li6, li9, li10, li16, li20, li23, li24, li25, li31, li33, li44, li48, li49, li50, li51, li57, li59, li60, li63, li69, li70, li71, li72, li74, li99, li100, li119, li126, li250, li296, li297, li298, li299, li300, li301, li302, li303, li606, li1515, li1818, li16384, li1048576, li2147483647, li10000, lj0, lj1, lj10000]
            · simp (disch := omega) only [h0, h1, e1, e2, e3, es, d1, d2, d3, gd_true, gd_dec, lt_def, bind_s, isb_0, isb_1, iZ_add, iZ_sub, iZ_mul, iZ_neg, lZ_add, lZ_sub, lZ_mul, iZ_lt, iZ_le, iZ_eq, lZ_lt, lZ_le, lZ_eq, iZ_64, iZ_N, inb_Z, if_pos, if_neg, ↓reduceIte, Bool.true_eq_false, Bool.false_eq_true, li7, li8, li12, li14, li34, li35, li36, li40, li101, li0, li1, li2, li3, li4, li5, li6, li9, li10, li16, li20, li23, li24, li25, li31, li33, li44, li48, li49, li50, li51, li57, li59, li60, li63, li69, li70, li71, li72, li74, li99, li100, li119, li126, li250, li296, li297, li298, li299, li300, li301, li302, li303, li606, li1515, li1818, li16384, li1048576, li2147483647, li10000, lj0, lj1, lj10000]
          · simp (disch := omega) only [h0, h1, e1, e2, e3, es, d1, d2, gd_true, gd_dec, lt_def, bind_s, isb_0, isb_1, iZ_add, iZ_sub, iZ_mul, iZ_neg, lZ_add, lZ_sub, lZ_mul, iZ_lt, iZ_le, iZ_eq, lZ_lt, lZ_le, lZ_eq, iZ_64, iZ_N, inb_Z, if_pos, if_neg, ↓reduceIte, Bool.true_eq_false, Bool.false_eq_true, li7, li8, li12, li14, li34, li35, li36, li40, li101, li0, li1, li2, li3, li4, li5, li6, li9, li10, li16, li20, li23, li24, li25, li31, li33, li44, li48, li49, li50, li51, li57, li59, li60, li63, li69, li70, li71, li72, li74, li99, li100, li119, li126, li250, li296, li297, li298, li299, li300, li301, li302, li303, li606, li1515, li1818, li16384, li1048576, li2147483647, li10000, lj0, lj1, lj10000]
        | false =>
          rw [hs] at es
          have es : fL_isSharp (iZ (k - 1)) (iZ k) (iZ (k + 1)) (iZ c) 36 f = some (iZ 0) := es
          by_cases d2 : N (3 * k + 5) < N (3 * k + 2) + w
          · by_cases d3 : N (3 * k - 1) < N (3 * k + 2) + w
            · simp (disch := omega) only [h0, h1, e1, e2, e3, es, d1, d2, d3, gd_true, gd_dec, lt_def, bind_s, isb_0, isb_1, iZ_add, iZ_sub, iZ_mul, iZ_neg, lZ_add, lZ_sub, lZ_mul, iZ_lt, iZ_le, iZ_eq, lZ_lt, lZ_le, lZ_eq, iZ_64, iZ_N, inb_Z, if_pos, if_neg, ↓reduceIte, Bool.true_eq_false, Bool.false_eq_true, li7, li8, li12, li14, li34, li35, li36, li40, li101, li0, li1, li2, li3, li4, li5, li6, li9, li10, li16, li20, li23, li24, li25, li31, li33, li44, li48, li49, li50, li51, li57, li59, li60, li63, li69, li70, li71, li72, li74, li99, li100, li119, li126, li250, li296, li297, li298, li299, li300, li301, li302, li303, li606, li1515, li1818, li16384, li1048576, li2147483647, li10000, lj0, lj1, lj10000]
            · simp (disch := omega) only [h0, h1, e1, e2, e3, es, d1, d2, d3, gd_true, gd_dec, lt_def, bind_s, isb_0, isb_1, iZ_add, iZ_sub, iZ_mul, iZ_neg, lZ_add, lZ_sub, lZ_mul, iZ_lt, iZ_le, iZ_eq, lZ_lt, lZ_le, lZ_eq, iZ_64, iZ_N, inb_Z, if_pos, if_neg, ↓reduceIte, Bool.true_eq_false, Bool.false_eq_true, li7, li8, li12, li14, li34, li35, li36, li40, li101, li0, li1, li2, li3, li4, li5, li6, li9, li10, li16, li20, li23, li24, li25, li31, li33, li44, li48, li49, li50, li51, li57, li59, li60, li63, li69, li70, li71, li72, li74, li99, li100, li119, li126, li250, li296, li297, li298, li299, li300, li301, li302, li303, li606, li1515, li1818, li16384, li1048576, li2147483647, li10000, lj0, lj1, lj10000]
          · simp (disch := omega) only [h0, h1, e1, e2, e3, es, d1, d2, gd_true, gd_dec, lt_def, bind_s, isb_0, isb_1, iZ_add, iZ_sub, iZ_mul, iZ_neg, lZ_add, lZ_sub, lZ_mul, iZ_lt, iZ_le, iZ_eq, lZ_lt, lZ_le, lZ_eq, iZ_64, iZ_N, inb_Z, if_pos, if_neg, ↓reduceIte, Bool.true_eq_false, Bool.false_eq_true, li7, li8, li12, li14, li34, li35, li36, li40, li101, li0, li1, li2, li3, li4, li5, li6, li9, li10, li16, li20, li23, li24, li25, li31, li33, li44, li48, li49, li50, li51, li57, li59, li60, li63, li69, li70, li71, li72, li74, li99, li100, li119, li126, li250, li296, li297, li298, li299, li300, li301, li302, li303, li606, li1515, li1818, li16384, li1048576, li2147483647, li10000, lj0, lj1, lj10000]
      · cases hs : shB N (k - 1) k (k + 1) c with
        | true =>
          rw [hs] at es
          have es : fL_isSharp (iZ (k - 1)) (iZ k) (iZ (k + 1)) (iZ c) 36 f = some (iZ 1) := es
          by_cases d2 : N (3 * k - 1) < N (3 * k + 2) + w
          · simp (disch := omega) only [h0, h1, e1, e2, e3, es, d1, d2, gd_true, gd_dec, lt_def, bind_s, isb_0, isb_1, iZ_add, iZ_sub, iZ_mul, iZ_neg, lZ_add, lZ_sub, lZ_mul, iZ_lt, iZ_le, iZ_eq, lZ_lt, lZ_le, lZ_eq, iZ_64, iZ_N, inb_Z, if_pos, if_neg, ↓reduceIte, Bool.true_eq_false, Bool.false_eq_true, li7, li8, li12, li14, li34, li35, li36, li40, li101, li0, li1, li2, li3, li4, li5, li6, li9, li10, li16, li20, li23, li24, li25, li31, li33, li44, li48, li49, li50, li51, li57, li59, li60, li63, li69, li70, li71, li72, li74, li99, li100, li119, li126, li250, li296, li297, li298, li299, li300, li301, li302, li303, li606, li1515, li1818, li16384, li1048576, li2147483647, li10000, lj0, lj1, lj10000]
          · simp (disch := omega) only [h0, h1, e1, e2, e3, es, d1, d2, gd_true, gd_dec, lt_def, bind_s, isb_0, isb_1, iZ_add, iZ_sub, iZ_mul, iZ_neg, lZ_add, lZ_sub, lZ_mul, iZ_lt, iZ_le, iZ_eq, lZ_lt, lZ_le, lZ_eq, iZ_64, iZ_N, inb_Z, if_pos, if_neg, ↓reduceIte, Bool.true_eq_false, Bool.false_eq_true, li7, li8, li12, li14, li34, li35, li36, li40, li101, li0, li1, li2, li3, li4, li5, li6, li9, li10, li16, li20, li23, li24, li25, li31, li33, li44, li48, li49, li50, li51, li57, li59, li60, li63, li69, li70, li71, li72, li74, li99, li100, li119, li126, li250, li296, li297, li298, li299, li300, li301, li302, li303, li606, li1515, li1818, li16384, li1048576, li2147483647, li10000, lj0, lj1, lj10000]
        | false =>
          rw [hs] at es
          have es : fL_isSharp (iZ (k - 1)) (iZ k) (iZ (k + 1)) (iZ c) 36 f = some (iZ 0) := es
          by_cases d2 : N (3 * k - 1) < N (3 * k + 2) + w
          · simp (disch := omega) only [h0, h1, e1, e2, e3, es, d1, d2, gd_true, gd_dec, lt_def, bind_s, isb_0, isb_1, iZ_add, iZ_sub, iZ_mul, iZ_neg, lZ_add, lZ_sub, lZ_mul, iZ_lt, iZ_le, iZ_eq, lZ_lt, lZ_le, lZ_eq, iZ_64, iZ_N, inb_Z, if_pos, if_neg, ↓reduceIte, Bool.true_eq_false, Bool.false_eq_true, li7, li8, li12, li14, li34, li35, li36, li40, li101, li0, li1, li2, li3, li4, li5, li6, li9, li10, li16, li20, li23, li24, li25, li31, li33, li44, li48, li49, li50, li51, li57, li59, li60, li63, li69, li70, li71, li72, li74, li99, li100, li119, li126, li250, li296, li297, li298, li299, li300, li301, li302, li303, li606, li1515, li1818, li16384, li1048576, li2147483647, li10000, lj0, lj1, lj10000]
          · simp (disch := omega) only [h0, h1, e1, e2, e3, es, d1, d2, gd_true, gd_dec, lt_def, bind_s, isb_0, isb_1, iZ_add, iZ_sub, iZ_mul, iZ_neg, lZ_add, lZ_sub, lZ_mul, iZ_lt, iZ_le, iZ_eq, lZ_lt, lZ_le, lZ_eq, iZ_64, iZ_N, inb_Z, if_pos, if_neg, ↓reduceIte, Bool.true_eq_false, Bool.false_eq_true, li7, li8, li12, li14, li34, li35, li36, li40, li101, li0, li1, li2, li3, li4, li5, li6, li9, li10, li16, li20, li23, li24, li25, li31, li33, li44, li48, li49, li50, li51, li57, li59, li60, li63, li69, li70, li71, li72, li74, li99, li100, li119, li126, li250, li296, li297, li298, li299, li300, li301, li302, li303, li606, li1515, li1818, li16384, li1048576, li2147483647, li10000, lj0, lj1, lj10000]
theorem l_next {K : Int32} {k j : Int} (h0 : 0 ≤ k) (J : IsNx K k j) (hj : j < 31) : fL_next K (iZ k) = some (iZ j) := by
  unfold fL_next lL_next_4
  have := J.1
  have h : lp (bL_next_4 K) (iZ (k + 1)) = some (iZ j) := by
    refine lp_fold (fun i => iZ i) (i := k + 1) (n := j) (by omega) (fun i a b => ?_) ?_
    · have hf := J.2.2 i (by omega) b
      simp (disch := omega) only [bL_next_4, hb_c, hf, gd_true, gd_dec, lt_def, bind_s, isb_0, isb_1, iZ_add, iZ_sub, iZ_mul, iZ_neg, lZ_add, lZ_sub, lZ_mul, iZ_lt, iZ_le, iZ_eq, lZ_lt, lZ_le, lZ_eq, iZ_64, iZ_N, inb_Z, if_pos, if_neg, ↓reduceIte, Bool.true_eq_false, Bool.false_eq_true, li7, li8, li12, li14, li34, li35, li36, li40, li101, li0, li1, li2, li3, li4, li5, li6, li9, li10, li16, li20, li23, li24, li25, li31, li33, li44, li48, li49, li50, li51, li57, li59, li60, li63, li69, li70, li71, li72, li74, li99, li100, li119, li126, li250, li296, li297, li298, li299, li300, li301, li302, li303, li606, li1515, li1818, li16384, li1048576, li2147483647, li10000, lj0, lj1, lj10000]
    · have hf := J.2.1
      simp (disch := omega) only [bL_next_4, hb_c, hf, gd_true, gd_dec, lt_def, bind_s, isb_0, isb_1, iZ_add, iZ_sub, iZ_mul, iZ_neg, lZ_add, lZ_sub, lZ_mul, iZ_lt, iZ_le, iZ_eq, lZ_lt, lZ_le, lZ_eq, iZ_64, iZ_N, inb_Z, if_pos, if_neg, ↓reduceIte, Bool.true_eq_false, Bool.false_eq_true, li7, li8, li12, li14, li34, li35, li36, li40, li101, li0, li1, li2, li3, li4, li5, li6, li9, li10, li16, li20, li23, li24, li25, li31, li33, li44, li48, li49, li50, li51, li57, li59, li60, li63, li69, li70, li71, li72, li74, li99, li100, li119, li126, li250, li296, li297, li298, li299, li300, li301, li302, li303, li606, li1515, li1818, li16384, li1048576, li2147483647, li10000, lj0, lj1, lj10000]
  simp (disch := omega) only [h, gd_true, gd_dec, lt_def, bind_s, isb_0, isb_1, iZ_add, iZ_sub, iZ_mul, iZ_neg, lZ_add, lZ_sub, lZ_mul, iZ_lt, iZ_le, iZ_eq, lZ_lt, lZ_le, lZ_eq, iZ_64, iZ_N, inb_Z, if_pos, if_neg, ↓reduceIte, Bool.true_eq_false, Bool.false_eq_true, li7, li8, li12, li14, li34, li35, li36, li40, li101, li0, li1, li2, li3, li4, li5, li6, li9, li10, li16, li20, li23, li24, li25, li31, li33, li44, li48, li49, li50, li51, li57, li59, li60, li63, li69, li70, li71, li72, li74, li99, li100, li119, li126, li250, li296, li297, li298, li299, li300, li301, li302, li303, li606, li1515, li1818, li16384, li1048576, li2147483647, li10000, lj0, lj1, lj10000]
theorem l_last {K : Int32} {k j : Int} (hk : k < 31) (J : IsPv K k j) : fL_last K (iZ k) = some (iZ j) := by
  unfold fL_last lL_last_4
  have := J.1
  have := J.2.1
  have h : lp (bL_last_4 K) (iZ (k - 1)) = some (iZ j) := by
    refine lp_down (fun i => iZ i) (i := k - 1) (n := j) (by omega) (fun i a b => ?_) ?_
    · have hf := J.2.2.2 i a (by omega)
      simp (disch := omega) only [bL_last_4, hb_c, hf, ← Int.sub_eq_add_neg, gd_true, gd_dec, lt_def, bind_s, isb_0, isb_1, iZ_add, iZ_sub, iZ_mul, iZ_neg, lZ_add, lZ_sub, lZ_mul, iZ_lt, iZ_le, iZ_eq, lZ_lt, lZ_le, lZ_eq, iZ_64, iZ_N, inb_Z, if_pos, if_neg, ↓reduceIte, Bool.true_eq_false, Bool.false_eq_true, li7, li8, li12, li14, li34, li35, li36, li40, li101, li0, li1, li2, li3, li4, li5, li6, li9, li10, li16, li20, li23, li24, li25, li31, li33, li44, li48, li49, li50, li51, li57, li59, li60, li63, li69, li70, li71, li72, li74, li99, li100, li119, li126, li250, li296, li297, li298, li299, li300, li301, li302, li303, li606, li1515, li1818, li16384, li1048576, li2147483647, li10000, lj0, lj1, lj10000]
    · have hf := J.2.2.1
      simp (disch := omega) only [bL_last_4, hb_c, hf, gd_true, gd_dec, lt_def, bind_s, isb_0, isb_1, iZ_add, iZ_sub, iZ_mul, iZ_neg, lZ_add, lZ_sub, lZ_mul, iZ_lt, iZ_le, iZ_eq, lZ_lt, lZ_le, lZ_eq, iZ_64, iZ_N, inb_Z, if_pos, if_neg, ↓reduceIte, Bool.true_eq_false, Bool.false_eq_true, li7, li8, li12, li14, li34, li35, li36, li40, li101, li0, li1, li2, li3, li4, li5, li6, li9, li10, li16, li20, li23, li24, li25, li31, li33, li44, li48, li49, li50, li51, li57, li59, li60, li63, li69, li70, li71, li72, li74, li99, li100, li119, li126, li250, li296, li297, li298, li299, li300, li301, li302, li303, li606, li1515, li1818, li16384, li1048576, li2147483647, li10000, lj0, lj1, lj10000]
  simp (disch := omega) only [h, gd_true, gd_dec, lt_def, bind_s, isb_0, isb_1, iZ_add, iZ_sub, iZ_mul, iZ_neg, lZ_add, lZ_sub, lZ_mul, iZ_lt, iZ_le, iZ_eq, lZ_lt, lZ_le, lZ_eq, iZ_64, iZ_N, inb_Z, if_pos, if_neg, ↓reduceIte, Bool.true_eq_false, Bool.false_eq_true, li7, li8, li12, li14, li34, li35, li36, li40, li101, li0, li1, li2, li3, li4, li5, li6, li9, li10, li16, li20, li23, li24, li25, li31, li33, li44, li48, li49, li50, li51, li57, li59, li60, li63, li69, li70, li71, li72, li74, li99, li100, li119, li126, li250, li296, li297, li298, li299, li300, li301, li302, li303, li606, li1515, li1818, li16384, li1048576, li2147483647, li10000, lj0, lj1, lj10000]
theorem l_put {k x y w : Int} (h0 : 0 ≤ k) (h1 : k < 12) : fL_put (iZ k) (iZ x) (iZ y) (iZ w) 36 f = some (mup f (3 * k) x y w) := by
  unfold fL_put mup
  simp (disch := omega) only [gd_true, gd_dec, lt_def, bind_s, isb_0, isb_1, iZ_add, iZ_sub, iZ_mul, iZ_neg, lZ_add, lZ_sub, lZ_mul, iZ_lt, iZ_le, iZ_eq, lZ_lt, lZ_le, lZ_eq, iZ_64, iZ_N, inb_Z, if_pos, if_neg, ↓reduceIte, Bool.true_eq_false, Bool.false_eq_true, li7, li8, li12, li14, li34, li35, li36, li40, li101, li0, li1, li2, li3, li4, li5, li6, li9, li10, li16, li20, li23, li24, li25, li31, li33, li44, li48, li49, li50, li51, li57, li59, li60, li63, li69, li70, li71, li72, li74, li99, li100, li119, li126, li250, li296, li297, li298, li299, li300, li301, li302, li303, li606, li1515, li1818, li16384, li1048576, li2147483647, li10000, lj0, lj1, lj10000]
theorem pairE (x y z t : Int) : ((if x ≤ 0 then (if 0 ≤ x then (some (iZ 0)) else (if y ≤ 0 then (some (iZ 0)) else (if z ≤ 0 then (if 0 ≤ z then (some (iZ 0)) else (if t ≤ 0 then (some (iZ 0)) else (some (iZ 1)))) else (if t < 0 then (some (iZ 1)) else (some (iZ 0)))))) else (if y < 0 then (if z ≤ 0 then (if 0 ≤ z then (some (iZ 0)) else (if t ≤ 0 then (some (iZ 0)) else (some (iZ 1)))) else (if t < 0 then (some (iZ 1)) else (some (iZ 0)))) else (some (iZ 0)))) : Option Int32) = some (iZ (bi (opB x y && opB z t))) := by
  have o1 : opB x y = decide (x < 0 ∧ 0 < y ∨ 0 < x ∧ y < 0) := by
    unfold opB
    repeat' split
    all_goals (symm; first | (apply decide_eq_true; omega) | (apply decide_eq_false; omega))
  have o2 : opB z t = decide (z < 0 ∧ 0 < t ∨ 0 < z ∧ t < 0) := by
    unfold opB
    repeat' split
    all_goals (symm; first | (apply decide_eq_true; omega) | (apply decide_eq_false; omega))
  rw [o1, o2]
  by_cases c1 : x < 0 ∧ 0 < y ∨ 0 < x ∧ y < 0
  · rw [decide_eq_true c1, Bool.true_and]
    by_cases c2 : z < 0 ∧ 0 < t ∨ 0 < z ∧ t < 0
    · rw [decide_eq_true c2]
      show _ = some (iZ 1)
      repeat' split
      all_goals first | rfl | omega
    · rw [decide_eq_false c2]
      show _ = some (iZ 0)
      repeat' split
      all_goals first | rfl | omega
  · rw [decide_eq_false c1, Bool.false_and]
    show _ = some (iZ 0)
    repeat' split
    all_goals first | rfl | omega
theorem l_pair (hm : Row f n N) (hc : Crd n N) (hn : n ≤ 12) {a b i j : Int} (a0 : 0 ≤ a) (a1 : a < n) (b0 : 0 ≤ b) (b1 : b < n) (i0 : 0 ≤ i) (i1 : i < n) (j0 : 0 ≤ j) (j1 : j < n) : fL_isPair (iZ a) (iZ b) (iZ i) (iZ j) 36 f = some (iZ (bi (crB N a b i j))) := by
  have h1 := sdD_b hc a0 a1 b0 b1 i0 i1
  have h2 := sdD_b hc a0 a1 b0 b1 j0 j1
  have h3 := sdD_b hc i0 i1 j0 j1 a0 a1
  have h4 := sdD_b hc i0 i1 j0 j1 b0 b1
  have e := pairE (sdD N a b i) (sdD N a b j) (sdD N i j a) (sdD N i j b)
  unfold fL_isPair crB
  simp (disch := omega) only [l_area hm hc hn a0 a1 b0 b1 i0 i1, l_area hm hc hn a0 a1 b0 b1 j0 j1, l_area hm hc hn i0 i1 j0 j1 a0 a1, l_area hm hc hn i0 i1 j0 j1 b0 b1, gd_true, gd_dec, lt_def, bind_s, isb_0, isb_1, iZ_add, iZ_sub, iZ_mul, iZ_neg, lZ_add, lZ_sub, lZ_mul, iZ_lt, iZ_le, iZ_eq, lZ_lt, lZ_le, lZ_eq, iZ_64, iZ_N, inb_Z, if_pos, if_neg, ↓reduceIte, Bool.true_eq_false, Bool.false_eq_true, li7, li8, li12, li14, li34, li35, li36, li40, li101, li0, li1, li2, li3, li4, li5, li6, li9, li10, li16, li20, li23, li24, li25, li31, li33, li44, li48, li49, li50, li51, li57, li59, li60, li63, li69, li70, li71, li72, li74, li99, li100, li119, li126, li250, li296, li297, li298, li299, li300, li301, li302, li303, li606, li1515, li1818, li16384, li1048576, li2147483647, li10000, lj0, lj1, lj10000]
  rw [e]
  cases opB (sdD N a b i) (sdD N a b j) && opB (sdD N i j a) (sdD N i j b) <;> rfl
end LA
