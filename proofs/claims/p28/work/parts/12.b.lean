/-! p28: the fewest points are the least of all near sets -/
theorem hb_iZ {s : Int} (h0 : 0 ≤ s) (h1 : s < 2147483648) {j : Int} (j0 : 0 ≤ j) : hb (iZ s) j = s.toNat.testBit j.toNat := by
  obtain ⟨m, rfl⟩ := nat_of h0
  obtain ⟨i, rfl⟩ := nat_of j0
  show (iZ (m : Int)).toBitVec.getLsbD (i : Int).toNat = (m : Int).toNat.testBit (i : Int).toNat
  rw [Int.toNat_natCast, Int.toNat_natCast]
  have e : (iZ (m : Int)).toBitVec = BitVec.ofNat 32 m := by
    have : iZ (m : Int) = Int32.ofNat m := Int32.ofInt_eq_ofNat
    rw [this]
    rfl
  rw [e, BitVec.getLsbD_ofNat]
  by_cases hi : i < 32
  · simp [hi]
  · have : m.testBit i = false := Nat.testBit_lt_two_pow (Nat.lt_of_lt_of_le (show m < 2 ^ 31 by omega) (Nat.pow_le_pow_right (by decide) (by omega)))
    simp [hi, this]
theorem hb_and (K F : Int32) (j : Int) : hb (K &&& F) j = (hb K j && hb F j) := by
  show (K &&& F).toBitVec.getLsbD j.toNat = _
  have : (K &&& F).toBitVec = K.toBitVec &&& F.toBitVec := rfl
  rw [this, BitVec.getLsbD_and]
  rfl
theorem and_sub {K F : Int32} : K &&& F = F ↔ ∀ j : Int, 0 ≤ j → hb F j = true → hb K j = true := by
  constructor
  · intro h j j0 hF
    have := hb_and K F j
    rw [h, hF] at this
    cases hk : hb K j with
    | true => rfl
    | false => rw [hk] at this; cases this
  · intro h
    refine hb_ext (fun j j0 _ => ?_)
    rw [hb_and]
    cases hF : hb F j with
    | true => rw [h j j0 hF]; rfl
    | false => cases hb K j <;> rfl
/-- a set's numbers of points: by tables -/
def cn (m : Nat) : Nat := (m.testBit 0).toNat + (m.testBit 1).toNat + (m.testBit 2).toNat + (m.testBit 3).toNat + (m.testBit 4).toNat + (m.testBit 5).toNat + (m.testBit 6).toNat + (m.testBit 7).toNat + (m.testBit 8).toNat + (m.testBit 9).toNat
theorem cn_tab {m : Nat} (h : m < 1024) : m = 0 ∧ cn m = 0 ∨ (m &&& (m - 1)) < m ∧ cn (m &&& (m - 1)) + 1 = cn m ∧ 0 < m := co_dec (N := 1024) (P := fun m => m = 0 ∧ cn m = 0 ∨ (m &&& (m - 1)) < m ∧ cn (m &&& (m - 1)) + 1 = cn m ∧ 0 < m) (by decide +kernel) h
theorem iZ_and {a b : Nat} : iZ (a : Int) &&& iZ (b : Int) = iZ ((a &&& b : Nat) : Int) := by
  rw [iZ_nI, iZ_nI, iZ_nI]
  exact nI_and
theorem l_onesN {m : Nat} (h : m < 1024) : fL_ones (iZ (m : Int)) = some (iZ (cn m : Int)) := by
  obtain ⟨r, h1, rfl⟩ := lp_mu (f := bL_ones_4) (fun st => ∃ c k : Nat, st = (iZ (c : Int), iZ (k : Int)) ∧ k < 1024 ∧ c + cn k = cn m) (fun st => st.2.toInt.toNat) (fun r => r = iZ (cn m : Int)) (by
    rintro st ⟨c, k, rfl, hk, hc⟩
    rcases cn_tab hk with ⟨rfl, h2⟩ | ⟨h1, h2, h3⟩
    · refine Or.inr ⟨iZ (c : Int), ?_, by rw [show c = cn m by omega]⟩
      simp (disch := omega) only [bL_ones_4, Int.natCast_zero, gd_true, gd_dec, lt_def, bind_s, isb_0, isb_1, iZ_add, iZ_sub, iZ_mul, iZ_neg, lZ_add, lZ_sub, lZ_mul, iZ_lt, iZ_le, iZ_eq, lZ_lt, lZ_le, lZ_eq, iZ_64, iZ_N, inb_Z, if_pos, if_neg, ↓reduceIte, Bool.true_eq_false, Bool.false_eq_true, li7, li8, li12, li14, li34, li35, li36, li40, li101, li0, li1, li2, li3, li4, li5, li6, li9, li10, li16, li20, li23, li24, li25, li31, li33, li44, li48, li49, li50, li51, li57, li59, li60, li63, li69, li70, li71, li72, li74, li99, li100, li119, li126, li250, li296, li297, li298, li299, li300, li301, li302, li303, li606, li1515, li1818, li16384, li1048576, li2147483647, li10000, lj0, lj1, lj10000]
    · refine Or.inl ⟨(iZ ((c + 1 : Nat) : Int), iZ ((k &&& (k - 1) : Nat) : Int)), ?_, ⟨c + 1, _, rfl, by omega, by omega⟩, ?_⟩
      · have e : iZ (k : Int) &&& (iZ (k : Int) - 1) = iZ ((k &&& (k - 1) : Nat) : Int) := by
          rw [li1, iZ_sub, show (k : Int) - 1 = ((k - 1 : Nat) : Int) by omega, iZ_and]
        have e2 : iZ (c : Int) + 1 = iZ ((c + 1 : Nat) : Int) := by rw [li1, iZ_add]; rfl
        have e3 : ¬ iZ (k : Int) ≤ 0 := by
          rw [li0, iZ_le (by omega) (by omega) (by omega) (by omega)]
          omega
        show (if iZ (k : Int) ≤ 0 then some (Sum.inr (iZ (c : Int))) else some (Sum.inl (iZ (c : Int) + 1, iZ (k : Int) &&& (iZ (k : Int) - 1)))) = _
        rw [if_neg e3, e, e2]
      · show (iZ ((k &&& (k - 1) : Nat) : Int)).toInt.toNat < (iZ (k : Int)).toInt.toNat
        rw [iZ_T (by omega) (by omega), iZ_T (by omega) (by omega)]
        omega) (iZ 0, iZ (m : Int)) ⟨0, m, rfl, h, by omega⟩
  unfold fL_ones lL_ones_4
  have h1 : lp bL_ones_4 (0, iZ (m : Int)) = some (iZ (cn m : Int)) := h1
  rw [h1, bind_s]
theorem cn_su {m : Nat} (h : m < 1024) : cK (iZ (m : Int)) 24 = (cn m : Int) := by
  have hz : ∀ j : Int, 10 ≤ j → hb (iZ (m : Int)) j = false := fun j hj => by
    rw [hb_iZ (by omega) (by omega) (by omega), Int.toNat_natCast]
    exact Nat.testBit_lt_two_pow (Nat.lt_of_lt_of_le (show m < 2 ^ 10 by omega) (Nat.pow_le_pow_right (by decide) (by omega)))
  have hv : ∀ j : Nat, onz (iZ (m : Int)) (j : Int) = ((m.testBit j).toNat : Int) := fun j => by
    unfold onz bi
    rw [hb_iZ (by omega) (by omega) (by omega), Int.toNat_natCast, Int.toNat_natCast]
    cases m.testBit j <;> rfl
  unfold cK
  rw [su_skip (onz (iZ (m : Int))) (a := 0) (k := 10) (j := 24) (by omega) (by omega) (fun i i0 _ => by unfold onz; rw [hz i i0]; rfl)]
  have st : ∀ k : Nat, su (onz (iZ (m : Int))) 0 ((k + 1 : Nat) : Int) = su (onz (iZ (m : Int))) 0 (k : Int) + ((m.testBit k).toNat : Int) := fun k => by
    rw [← hv k]
    have e : ((k + 1 : Nat) : Int) = (k : Int) + 1 := by omega
    rw [e]
    exact su_s _ (by omega)
  have s0 : su (onz (iZ (m : Int))) 0 ((0 : Nat) : Int) = 0 := su_0 _ _
  have s1 : su (onz (iZ (m : Int))) 0 ((1 : Nat) : Int) = su (onz (iZ (m : Int))) 0 ((0 : Nat) : Int) + ((m.testBit 0).toNat : Int) := st 0
  have s2 : su (onz (iZ (m : Int))) 0 ((2 : Nat) : Int) = su (onz (iZ (m : Int))) 0 ((1 : Nat) : Int) + ((m.testBit 1).toNat : Int) := st 1
  have s3 : su (onz (iZ (m : Int))) 0 ((3 : Nat) : Int) = su (onz (iZ (m : Int))) 0 ((2 : Nat) : Int) + ((m.testBit 2).toNat : Int) := st 2
  have s4 : su (onz (iZ (m : Int))) 0 ((4 : Nat) : Int) = su (onz (iZ (m : Int))) 0 ((3 : Nat) : Int) + ((m.testBit 3).toNat : Int) := st 3
  have s5 : su (onz (iZ (m : Int))) 0 ((5 : Nat) : Int) = su (onz (iZ (m : Int))) 0 ((4 : Nat) : Int) + ((m.testBit 4).toNat : Int) := st 4
  have s6 : su (onz (iZ (m : Int))) 0 ((6 : Nat) : Int) = su (onz (iZ (m : Int))) 0 ((5 : Nat) : Int) + ((m.testBit 5).toNat : Int) := st 5
  have s7 : su (onz (iZ (m : Int))) 0 ((7 : Nat) : Int) = su (onz (iZ (m : Int))) 0 ((6 : Nat) : Int) + ((m.testBit 6).toNat : Int) := st 6
  have s8 : su (onz (iZ (m : Int))) 0 ((8 : Nat) : Int) = su (onz (iZ (m : Int))) 0 ((7 : Nat) : Int) + ((m.testBit 7).toNat : Int) := st 7
  have s9 : su (onz (iZ (m : Int))) 0 ((9 : Nat) : Int) = su (onz (iZ (m : Int))) 0 ((8 : Nat) : Int) + ((m.testBit 8).toNat : Int) := st 8
  have s10 : su (onz (iZ (m : Int))) 0 ((10 : Nat) : Int) = su (onz (iZ (m : Int))) 0 ((9 : Nat) : Int) + ((m.testBit 9).toNat : Int) := st 9
  show su (onz (iZ (m : Int))) 0 ((10 : Nat) : Int) = (cn m : Int)
  rw [s10, s9, s8, s7, s6, s5, s4, s3, s2, s1, s0]
  unfold cn
  omega
/-- all its points of a set lie in the first ten: it is a number below 1024 -/
theorem set_num {K : Int32} {n : Int} (n0 : 0 ≤ n) (n1 : n ≤ 10) (h : ∀ j : Int, n ≤ j → hb K j = false) : ∃ m : Nat, K = iZ (m : Int) ∧ m < 1024 ∧ (m : Int) < 2 ^ n.toNat := by
  obtain ⟨n', rfl⟩ := nat_of n0
  have hlt : K.toBitVec.toNat < 2 ^ n' := by
    refine Nat.lt_pow_two_of_testBit _ (fun i hi => ?_)
    have := h (i : Int) (by omega)
    unfold hb at this
    rw [Int.toNat_natCast] at this
    exact this
  have h10 : 2 ^ n' ≤ 2 ^ 10 := Nat.pow_le_pow_right (by decide) (by omega)
  refine ⟨K.toBitVec.toNat, ?_, by omega, ?_⟩
  · rw [iZ_nI]
    exact nI_ofK K
  · rw [Int.toNat_natCast]
    exact_mod_cast hlt
theorem l_ones {K : Int32} {n : Int} (n0 : 0 ≤ n) (n1 : n ≤ 10) (h : ∀ j : Int, n ≤ j → hb K j = false) : fL_ones K = some (iZ (cK K 24)) ∧ 0 ≤ cK K 24 ∧ cK K 24 ≤ 24 := by
  obtain ⟨m, rfl, hm, -⟩ := set_num n0 n1 h
  rw [l_onesN hm, cn_su hm]
  have := (cK_b (iZ (m : Int)) (k := 24) (by omega)).2
  rw [cn_su hm] at this
  exact ⟨rfl, by omega, this⟩
section LB
variable {f : Nat → Int32} {n : Int} {N : Int → Int} {bd : Int} {F : Int32}
def near (N : Int → Int) (n bd : Int) (K : Int32) : Prop := ∀ k : Int, 0 < k → k < n - 1 → hb K k = false → abD N k (pv K k) (nx K k) ≤ bd * bd * beD N k (pv K k) (nx K k)
theorem bd2 {be : Int} (d0 : 0 ≤ bd) (d1 : bd ≤ 50) (h : 1 ≤ be ∧ be ≤ 19602) : (bd * bd).natAbs ≤ 2500 ∧ (bd * bd * be).natAbs ≤ 49005000 := by
  have h1 := mbd 50 50 2500 (a := bd) (b := bd) (by omega) (by omega) rfl
  exact ⟨h1, mbd 2500 19602 49005000 h1 (by omega) rfl⟩
theorem l_near (hm : Row f n N) (hc : Crd n N) (hn : n ≤ 12) {K : Int32} (M : MK n K) (d0 : 0 ≤ bd) (d1 : bd ≤ 50) : ∃ b : Bool, fL_isNear (iZ n) K (iZ bd) 36 f = some (iZ (bi b)) ∧ (b = true ↔ near N n bd K) := by
  have n2 := M.1
  obtain ⟨r, h1, b, rfl, h2⟩ := lp_mu (f := bL_isNear_6 (iZ n) K (iZ bd) f 36) (fun st => ∃ (b : Bool) (k : Int), st = (iZ (bi b), iZ k) ∧ 1 ≤ k ∧ k ≤ n - 1 ∧ (b = true ↔ ∀ j : Int, 0 < j → j < k → hb K j = false → abD N j (pv K j) (nx K j) ≤ bd * bd * beD N j (pv K j) (nx K j))) (fun st => (n - st.2.toInt).toNat) (fun r => ∃ b : Bool, r = iZ (bi b) ∧ (b = true ↔ near N n bd K)) (by
    rintro st ⟨b, k, rfl, k0, k1, hb0⟩
    by_cases e : k = n - 1
    · subst e
      refine Or.inr ⟨iZ (bi b), ?_, b, rfl, hb0⟩
      simp (disch := omega) only [bL_isNear_6, gd_true, gd_dec, lt_def, bind_s, isb_0, isb_1, iZ_add, iZ_sub, iZ_mul, iZ_neg, lZ_add, lZ_sub, lZ_mul, iZ_lt, iZ_le, iZ_eq, lZ_lt, lZ_le, lZ_eq, iZ_64, iZ_N, inb_Z, if_pos, if_neg, ↓reduceIte, Bool.true_eq_false, Bool.false_eq_true, li7, li8, li12, li14, li34, li35, li36, li40, li101, li0, li1, li2, li3, li4, li5, li6, li9, li10, li16, li20, li23, li24, li25, li31, li33, li44, li48, li49, li50, li51, li57, li59, li60, li63, li69, li70, li71, li72, li74, li99, li100, li119, li126, li250, li296, li297, li298, li299, li300, li301, li302, li303, li606, li1515, li1818, li16384, li1048576, li2147483647, li10000, lj0, lj1, lj10000]
    · cases b with
      | false =>
        refine Or.inr ⟨iZ (bi false), ?_, false, rfl, ?_⟩
        · simp (disch := omega) only [bL_isNear_6, bi_fa, gd_true, gd_dec, lt_def, bind_s, isb_0, isb_1, iZ_add, iZ_sub, iZ_mul, iZ_neg, lZ_add, lZ_sub, lZ_mul, iZ_lt, iZ_le, iZ_eq, lZ_lt, lZ_le, lZ_eq, iZ_64, iZ_N, inb_Z, if_pos, if_neg, ↓reduceIte, Bool.true_eq_false, Bool.false_eq_true, li7, li8, li12, li14, li34, li35, li36, li40, li101, li0, li1, li2, li3, li4, li5, li6, li9, li10, li16, li20, li23, li24, li25, li31, li33, li44, li48, li49, li50, li51, li57, li59, li60, li63, li69, li70, li71, li72, li74, li99, li100, li119, li126, li250, li296, li297, li298, li299, li300, li301, li302, li303, li606, li1515, li1818, li16384, li1048576, li2147483647, li10000, lj0, lj1, lj10000]
        · constructor
          · intro q; cases q
          · intro q
            exact hb0.mpr (fun j j0 j1 hj => q j j0 (by omega) hj)
      | true =>
        have hb1 := hb0.mp rfl
        have hmu : ∀ b' : Bool, (n - (iZ (k + 1)).toInt).toNat < (n - (iZ k).toInt).toNat := fun _ => by
          rw [iZ_T (by omega) (by omega), iZ_T (by omega) (by omega)]
          omega
        cases hk : hb K k with
        | true =>
          refine Or.inl ⟨(iZ (bi true), iZ (k + 1)), ?_, ⟨true, k + 1, rfl, by omega, by omega, ?_⟩, hmu true⟩
          · simp (disch := omega) only [bL_isNear_6, bi_tr, hb_r, hk, gd_true, gd_dec, lt_def, bind_s, isb_0, isb_1, iZ_add, iZ_sub, iZ_mul, iZ_neg, lZ_add, lZ_sub, lZ_mul, iZ_lt, iZ_le, iZ_eq, lZ_lt, lZ_le, lZ_eq, iZ_64, iZ_N, inb_Z, if_pos, if_neg, ↓reduceIte, Bool.true_eq_false, Bool.false_eq_true, li7, li8, li12, li14, li34, li35, li36, li40, li101, li0, li1, li2, li3, li4, li5, li6, li9, li10, li16, li20, li23, li24, li25, li31, li33, li44, li48, li49, li50, li51, li57, li59, li60, li63, li69, li70, li71, li72, li74, li99, li100, li119, li126, li250, li296, li297, li298, li299, li300, li301, li302, li303, li606, li1515, li1818, li16384, li1048576, li2147483647, li10000, lj0, lj1, lj10000]
          · refine ⟨fun _ j j0 j1 hj => ?_, fun _ => rfl⟩
            by_cases ej : j = k
            · rw [ej, hk] at hj; cases hj
            · exact hb1 j j0 (by omega) hj
        | false =>
          obtain ⟨P1, P2, P3, P4⟩ := pv_is M (k := k) (by omega)
          obtain ⟨⟨X1, X2, X3⟩, X4⟩ := nx_is M (k := k) (by omega) (by omega)
          have el := l_last (K := K) (k := k) (by omega) ⟨P1, P2, P3, P4⟩
          have en := l_next (K := K) (k := k) (by omega) ⟨X1, X2, X3⟩ (by omega)
          have ea := l_above hm hc hn (k := k) (a := pv K k) (b := nx K k) (by omega) (by omega) P2 (by omega) (by omega) (by omega)
          have eb := l_below hm hc hn (k := k) (a := pv K k) (b := nx K k) (by omega) (by omega) P2 (by omega) (by omega) (by omega)
          have b1 := abD_b hc (k := k) (f := pv K k) (t := nx K k) (by omega) (by omega) P2 (by omega) (by omega) (by omega)
          have b2 := beD_b (k := k) hc (f := pv K k) (t := nx K k) P2 (by omega) (by omega) (by omega)
          obtain ⟨b3, b4⟩ := bd2 d0 d1 b2
          by_cases c : bd * bd * beD N k (pv K k) (nx K k) < abD N k (pv K k) (nx K k)
          · refine Or.inl ⟨(iZ (bi false), iZ (k + 1)), ?_, ⟨false, k + 1, rfl, by omega, by omega, ?_⟩, hmu false⟩
            · simp (disch := omega) only [bL_isNear_6, bi_tr, bi_fa, hb_r, hk, el, en, ea, eb, gd_true, gd_dec, lt_def, bind_s, isb_0, isb_1, iZ_add, iZ_sub, iZ_mul, iZ_neg, lZ_add, lZ_sub, lZ_mul, iZ_lt, iZ_le, iZ_eq, lZ_lt, lZ_le, lZ_eq, iZ_64, iZ_N, inb_Z, if_pos, if_neg, ↓reduceIte, Bool.true_eq_false, Bool.false_eq_true, li7, li8, li12, li14, li34, li35, li36, li40, li101, li0, li1, li2, li3, li4, li5, li6, li9, li10, li16, li20, li23, li24, li25, li31, li33, li44, li48, li49, li50, li51, li57, li59, li60, li63, li69, li70, li71, li72, li74, li99, li100, li119, li126, li250, li296, li297, li298, li299, li300, li301, li302, li303, li606, li1515, li1818, li16384, li1048576, li2147483647, li10000, lj0, lj1, lj10000]
            · refine ⟨fun q => (by cases q), fun q => ?_⟩
              have := q k (by omega) (by omega) hk
              omega
          · refine Or.inl ⟨(iZ (bi true), iZ (k + 1)), ?_, ⟨true, k + 1, rfl, by omega, by omega, ?_⟩, hmu true⟩
            · simp (disch := omega) only [bL_isNear_6, bi_tr, hb_r, hk, el, en, ea, eb, gd_true, gd_dec, lt_def, bind_s, isb_0, isb_1, iZ_add, iZ_sub, iZ_mul, iZ_neg, lZ_add, lZ_sub, lZ_mul, iZ_lt, iZ_le, iZ_eq, lZ_lt, lZ_le, lZ_eq, iZ_64, iZ_N, inb_Z, if_pos, if_neg, ↓reduceIte, Bool.true_eq_false, Bool.false_eq_true, li7, li8, li12, li14, li34, li35, li36, li40, li101, li0, li1, li2, li3, li4, li5, li6, li9, li10, li16, li20, li23, li24, li25, li31, li33, li44, li48, li49, li50, li51, li57, li59, li60, li63, li69, li70, li71, li72, li74, li99, li100, li119, li126, li250, li296, li297, li298, li299, li300, li301, li302, li303, li606, li1515, li1818, li16384, li1048576, li2147483647, li10000, lj0, lj1, lj10000]
            · refine ⟨fun _ j j0 j1 hj => ?_, fun _ => rfl⟩
              by_cases ej : j = k
              · rw [ej]; omega
              · exact hb1 j j0 (by omega) hj) (iZ (bi true), iZ 1) ⟨true, 1, rfl, by omega, by omega, ⟨fun _ j j0 j1 => by omega, fun _ => rfl⟩⟩
  refine ⟨b, ?_, h2⟩
  unfold fL_isNear lL_isNear_6
  have h1 : lp (bL_isNear_6 (iZ n) K (iZ bd) f 36) (1, 1) = some (iZ (bi b)) := h1
  rw [h1, bind_s, bi_b, gd_true]
/-- a path of near steps from 0 up to a point -/
def pth (N : Int → Int) (F : Int32) (bd t : Int) (K : Int32) : Prop := hb K 0 = true ∧ hb K t = true ∧ ∀ a b : Int, 0 ≤ a → b ≤ t → hb K a = true → IsNx K a b → okS N F bd a b
def lexLe (t : Int) (S K : Int32) : Prop := (∀ j : Int, 0 ≤ j → j ≤ t → hb S j = hb K j) ∨ ∃ p : Int, 0 ≤ p ∧ p < t ∧ hb S p = false ∧ hb K p = true ∧ ∀ j : Int, p < j → j ≤ t → hb S j = hb K j
theorem hb_1 {j : Int} (h : 0 ≤ j) : hb (iZ 1) j = decide (j = 0) := by
  rw [hb_iZ (by omega) (by omega) h]
  obtain ⟨i, rfl⟩ := nat_of h
  rw [Int.toNat_natCast]
  have : (1 : Int).toNat = 1 := rfl
  rw [this]
  cases i with
  | zero => rfl
  | succ i =>
    rw [Nat.testBit_succ, show (1 : Nat) / 2 = 0 from rfl, Nat.zero_testBit]
    symm
    exact decide_eq_false (by omega)
theorem few_min {C : Int → Int} {S : Int → Int32} {to : Int} (T : Tab N F bd to C S) (h24 : to ≤ 24) {K : Int32} : ∀ t : Nat, (t : Int) < to → pth N F bd t K → C t < cK K (t + 1) ∨ C t = cK K (t + 1) ∧ lexLe t (S t) K := by
  intro t
  induction t using Nat.strongRecOn with
  | ind t ih =>
  intro t1 hp
  obtain ⟨p0, pt, pn⟩ := hp
  by_cases t0 : t = 0
  · subst t0
    have e1 : cK K ((0 : Nat) + 1 : Int) = 1 := by
      have := cK_y (K := K) (k := 0) (by omega) p0
      rw [cK_0] at this
      exact this
    refine Or.inr ⟨by rw [e1]; exact T.1, Or.inl (fun j j0 j1 => ?_)⟩
    have : j = 0 := by omega
    subst this
    have e2 : S ((0 : Nat) : Int) = iZ 1 := T.2.1
    rw [e2, p0, hb_1 (by omega)]
    rfl
  · -- the point before
    obtain ⟨b', hb'⟩ : ∃ b' : Int, IsPv K t b' := by
      have key : ∀ m : Nat, ∀ k : Int, k = (m : Int) + 1 → k ≤ t → ∃ j, IsPv K k j := by
        intro m
        induction m with
        | zero => intro k hk _; exact ⟨0, by omega, by omega, p0, fun i a b => by omega⟩
        | succ m ihm =>
          intro k hk hkt
          cases hk1 : hb K (k - 1) with
          | true => exact ⟨k - 1, by omega, by omega, hk1, fun i a b => by omega⟩
          | false =>
            obtain ⟨j, a, b, c, d⟩ := ihm (k - 1) (by omega) (by omega)
            refine ⟨j, by omega, b, c, fun i p q => ?_⟩
            by_cases e : i = k - 1
            · rw [e]; exact hk1
            · exact d i p (by omega)
      exact key (t - 1) t (by omega) (by omega)
    obtain ⟨b1, b2, b3, b4⟩ := hb'
    obtain ⟨m, rfl⟩ := nat_of b2
    have ok : okS N F bd m t := pn m t (by omega) (by omega) b3 ⟨b1, pt, fun i a b => b4 i a b⟩
    have hm := ih m (by omega) (by omega) ⟨p0, b3, fun a b a0 bm ha hx => pn a b a0 (by omega) ha hx⟩
    have ek : cK K ((t : Int) + 1) = cK K ((m : Int) + 1) + 1 := by
      rw [cK_y (by omega) pt]
      unfold cK
      rw [su_skip (onz K) (a := 0) (k := (m : Int) + 1) (j := t) (by omega) (by omega) (fun i i0 i1 => by unfold onz; rw [b4 i (by omega) i1]; rfl)]
    obtain ⟨b, ⟨⟨c0, c1⟩, c2, c3, c4⟩, c5, c6⟩ := T.2.2 t (by omega) t1
    have d1 := c3 m (by omega) (by omega) ok
    rw [ek, c5]
    by_cases hlt : C b + 1 < cK K ((m : Int) + 1) + 1
    · exact Or.inl hlt
    · right
      rcases hm with h | ⟨h, hl⟩
      · omega
      · refine ⟨by omega, ?_⟩
        have hbm : ¬ (m : Int) < b := fun q => by
          have := c4 m (by omega) q ok
          omega
        have sb := (T.b h24 c0 (by omega)).2.2.2
        have hS : ∀ j : Int, 0 ≤ j → hb (S t) j = (hb (S b) j || decide (j = t)) := fun j j0 => by
          rw [c6]
          exact hb_or (by omega) (by omega) j0
        by_cases e : b = (m : Int)
        · subst e
          have hup : ∀ j : Int, (m : Int) < j → j ≤ t → hb (S t) j = hb K j := fun j j0 j1 => by
            rw [hS j (by omega), sb j j0]
            by_cases ej : j = t
            · rw [ej, pt, decide_eq_true rfl]; rfl
            · rw [b4 j j0 (by omega), decide_eq_false ej]; rfl
          have hdn : ∀ j : Int, 0 ≤ j → j ≤ (m : Int) → hb (S t) j = hb (S m) j := fun j j0 j1 => by
            rw [hS j j0, decide_eq_false (by omega), Bool.or_false]
          rcases hl with hl | ⟨p, q0, q1, q2, q3, q4⟩
          · refine Or.inl (fun j j0 j1 => ?_)
            by_cases ej : j ≤ (m : Int)
            · rw [hdn j j0 ej]; exact hl j j0 ej
            · exact hup j (by omega) j1
          · refine Or.inr ⟨p, q0, by omega, by rw [hdn p q0 (by omega)]; exact q2, q3, fun j j0 j1 => ?_⟩
            by_cases ej : j ≤ (m : Int)
            · rw [hdn j (by omega) ej]; exact q4 j j0 ej
            · exact hup j (by omega) j1
        · refine Or.inr ⟨m, by omega, b1, ?_, b3, fun j j0 j1 => ?_⟩
          · rw [hS _ (by omega), sb _ (by omega), decide_eq_false (by omega)]
            rfl
          · rw [hS j (by omega), sb j (by omega)]
            by_cases ej : j = t
            · rw [ej, pt, decide_eq_true rfl]; rfl
            · rw [b4 j j0 (by omega), decide_eq_false ej]; rfl
theorem few_is {C : Int → Int} {S : Int → Int32} {to : Int} (T : Tab N F bd to C S) (h24 : to ≤ 24) : ∀ t : Nat, (t : Int) < to → pth N F bd t (S t) ∧ cK (S t) ((t : Int) + 1) = C t := by
  intro t
  induction t using Nat.strongRecOn with
  | ind t ih =>
  intro t1
  obtain ⟨-, q1, q2, q3⟩ := T.b h24 (t := t) (by omega) t1
  by_cases t0 : t = 0
  · subst t0
    refine ⟨⟨q1, q2, fun a b a0 b1 _ hx => ?_⟩, ?_⟩
    · have := hx.1
      omega
    · have e := cK_y (K := S ((0 : Nat) : Int)) (k := 0) (by omega) q1
      rw [cK_0] at e
      have e2 : C ((0 : Nat) : Int) = 1 := T.1
      rw [e2]
      exact e
  · obtain ⟨b, ⟨⟨c0, c1⟩, c2, c3, c4⟩, c5, c6⟩ := T.2.2 t (by omega) t1
    obtain ⟨m, rfl⟩ := nat_of c0
    obtain ⟨⟨g1, g2, g3⟩, g4⟩ := ih m (by omega) (by omega)
    have sb := (T.b h24 c0 (by omega)).2.2.2
    have hS : ∀ j : Int, 0 ≤ j → hb (S t) j = (hb (S m) j || decide (j = t)) := fun j j0 => by
      rw [c6]
      exact hb_or (by omega) (by omega) j0
    have hz : ∀ j : Int, (m : Int) < j → j < t → hb (S t) j = false := fun j j0 j1 => by
      rw [hS j (by omega), sb j j0, decide_eq_false (by omega)]
      rfl
    have hdn : ∀ j : Int, 0 ≤ j → j ≤ (m : Int) → hb (S t) j = hb (S m) j := fun j j0 j1 => by
      rw [hS j j0, decide_eq_false (by omega), Bool.or_false]
    refine ⟨⟨q1, q2, fun a b' a0 b1 ha hx => ?_⟩, ?_⟩
    · obtain ⟨x1, x2, x3⟩ := hx
      by_cases eb : b' ≤ (m : Int)
      · refine g3 a b' a0 eb (by rw [← hdn a a0 (by omega)]; exact ha) ⟨x1, by rw [← hdn b' (by omega) eb]; exact x2, fun i i0 i1 => ?_⟩
        rw [← hdn i (by omega) (by omega)]
        exact x3 i i0 i1
      · have e1 : b' = t := by
          by_cases h : b' = t
          · exact h
          · have := hz b' (by omega) (by omega)
            rw [x2] at this
            cases this
        subst e1
        have e2 : a = (m : Int) := by
          by_cases h1 : a < (m : Int)
          · have := x3 m h1 (by omega)
            rw [hdn m (by omega) (by omega), g2] at this
            cases this
          · by_cases h2 : (m : Int) < a
            · have := hz a h2 x1
              rw [ha] at this
              cases this
            · omega
        subst e2
        exact c2
    · rw [cK_y (by omega) q2]
      have e1 : cK (S t) t = cK (S t) ((m : Int) + 1) := by
        unfold cK
        rw [su_skip (onz (S t)) (a := 0) (k := (m : Int) + 1) (j := t) (by omega) (by omega) (fun i i0 i1 => by unfold onz; rw [hz i (by omega) i1]; rfl)]
      have e2 : cK (S t) ((m : Int) + 1) = cK (S m) ((m : Int) + 1) := by
        unfold cK
        exact su_cg (fun i i0 i1 => by unfold onz; rw [hdn i i0 (by omega)])
      rw [e1, e2, g4, c5]
/-- the sets that may be: the fixed points are in them, the others are near -/
def feas (N : Int → Int) (n : Int) (F : Int32) (bd : Int) (K : Int32) : Prop := MK n K ∧ (∀ j : Int, 0 ≤ j → hb F j = true → hb K j = true) ∧ near N n bd K
theorem near_ok (hc : Crd n N) {k a b : Int} (a0 : 0 ≤ a) (ak : a < k) (kb : k < b) (b1 : b < n) : abD N k a b ≤ bd * bd * beD N k a b ↔ spD N k a b ≤ bd * bd * scD N a b := by
  obtain ⟨e, -⟩ := spD_eq hc (k := k) (f := a) (t := b) a0 (by omega) (by omega) b1
  have h1 := (beD_b (k := k) hc (f := a) (t := b) a0 (by omega) (by omega) b1).1
  have h2 := (scD_b hc (f := a) (t := b) a0 (by omega) (by omega) b1).1
  have := key_cmp (pa := 1) (mo := bd * bd) (show 0 < beD N k a b by omega) (show 0 < scD N a b by omega) e
  rw [Int.mul_one, Int.mul_one] at this
  exact this
theorem feas_pth (hc : Crd n N) {K : Int32} (h : feas N n F bd K) : pth N F bd (n - 1) K := by
  obtain ⟨M, h2, h3⟩ := h
  refine ⟨M.2.1, M.2.2.1, fun a b a0 b1 ha hx j j0 j1 => ?_⟩
  have hj := hx.2.2 j j0 j1
  have e1 : pv K j = a := IsPv.uniq (pv_is M (by omega)) ⟨j0, a0, ha, fun i p q => hx.2.2 i p (by omega)⟩
  have e2 : nx K j = b := IsNx.uniq (nx_is M (by omega) (by omega)).1 ⟨j1, hx.2.1, fun i p q => hx.2.2 i (by omega) q⟩
  refine ⟨?_, ?_⟩
  · cases hF : hb F j with
    | false => rfl
    | true =>
      have := h2 j (by omega) hF
      rw [hj] at this
      cases this
  · have := h3 j (by omega) (by omega) hj
    rw [e1, e2] at this
    exact (near_ok hc a0 j0 j1 (by omega)).mp this
theorem pth_feas (hc : Crd n N) {K : Int32} (M : MK n K) (MF : MK n F) (h : pth N F bd (n - 1) K) : feas N n F bd K := by
  refine ⟨M, fun j j0 hj => ?_, fun k k0 k1 hk => ?_⟩
  · cases hK : hb K j with
    | true => rfl
    | false =>
      have j1 := MF.2.2.2 j j0 hj
      have a1 : j ≠ 0 := fun q => by rw [q, M.2.1] at hK; cases hK
      have a2 : j ≠ n - 1 := fun q => by rw [q, M.2.2.1] at hK; cases hK
      obtain ⟨p1, p2, p3, p4⟩ := pv_is M (k := j) (by omega)
      obtain ⟨⟨x1, x2, x3⟩, x4⟩ := nx_is M (k := j) (by omega) (by omega)
      have := (h.2.2 (pv K j) (nx K j) p2 x4 p3 ⟨by omega, x2, fun i q r => by
        by_cases e : i < j
        · exact p4 i q e
        · by_cases e2 : i = j
          · rw [e2]; exact hK
          · exact x3 i (by omega) r⟩ j p1 x1).1
      rw [hj] at this
      cases this
  · obtain ⟨p1, p2, p3, p4⟩ := pv_is M (k := k) (by omega)
    obtain ⟨⟨x1, x2, x3⟩, x4⟩ := nx_is M (k := k) (by omega) (by omega)
    have := (h.2.2 (pv K k) (nx K k) p2 x4 p3 ⟨by omega, x2, fun i q r => by
      by_cases e : i < k
      · exact p4 i q e
      · by_cases e2 : i = k
        · rw [e2]; exact hk
        · exact x3 i (by omega) r⟩ k p1 x1).2
    exact (near_ok hc p2 p1 x1 (by omega)).mpr this
/-- of two sets the one is no worse -/
def noW (S K : Int32) : Prop := cK S 24 < cK K 24 ∨ cK S 24 = cK K 24 ∧ S.toInt ≤ K.toInt
theorem cK_24 {K : Int32} (M : MK n K) : cK K 24 = cK K n := by
  have := M.1
  unfold cK
  exact su_skip (onz K) (by omega) (by omega) (fun i i0 _ => by
    unfold onz
    cases h : hb K i with
    | false => rfl
    | true =>
      have := M.2.2.2 i (by omega) h
      omega)
theorem lex_le {t : Int} {S K : Int32} (t0 : 0 ≤ t) (t1 : t < 24) (hS : ∀ j : Int, t < j → hb S j = false) (hK : ∀ j : Int, t < j → hb K j = false) (h : lexLe t S K) : S.toInt ≤ K.toInt := by
  rcases h with h | ⟨p, p0, p1, p2, p3, p4⟩
  · have : S = K := hb_ext (fun j j0 _ => by
      by_cases e : j ≤ t
      · exact h j j0 e
      · rw [hS j (by omega), hK j (by omega)])
    rw [this]
    exact Int.le_refl _
  · have := lt_bits (X := S) (Y := K) p0 (by omega) p2 p3 (fun j hj => by
      by_cases e : j ≤ t
      · exact p4 j hj e
      · rw [hS j (by omega), hK j (by omega)]) (hK 31 (by omega))
    exact Int.le_of_lt (Int32.lt_iff_toInt_lt.mp this)
theorem MK.hi {K : Int32} (M : MK n K) : ∀ j : Int, n - 1 < j → hb K j = false := fun j hj => by
  have := M.1
  cases h : hb K j with
  | false => rfl
  | true =>
    have := M.2.2.2 j (by omega) h
    omega
theorem few_best (hc : Crd n N) {C : Int → Int} {S : Int → Int32} (hn : 2 ≤ n ∧ n ≤ 24) (MF : MK n F) (T : Tab N F bd n C S) : feas N n F bd (S (n - 1)) ∧ ∀ K : Int32, feas N n F bd K → noW (S (n - 1)) K := by
  obtain ⟨t, ht⟩ : ∃ t : Nat, (t : Int) = n - 1 := ⟨(n - 1).toNat, by omega⟩
  have MS1 := T.MK hn
  obtain ⟨h1, h2⟩ := few_is T hn.2 t (by omega)
  rw [ht] at h1 h2
  refine ⟨pth_feas hc MS1 MF h1, fun K hK => ?_⟩
  have h3 := few_min T hn.2 t (by omega) (by rw [ht]; exact feas_pth hc hK)
  rw [ht] at h3
  rw [show n - 1 + 1 = n by omega] at h2 h3
  unfold noW
  rw [cK_24 MS1, cK_24 hK.1, h2]
  rcases h3 with h | ⟨h, hl⟩
  · exact Or.inl h
  · exact Or.inr ⟨h, lex_le (by omega) (by omega) MS1.hi hK.1.hi hl⟩
theorem noW.anti {S K : Int32} (h : noW S K) (h2 : noW K S) : S = K := by
  rcases h with h | ⟨h, h3⟩
  · rcases h2 with h2 | ⟨h2, -⟩
    · omega
    · omega
  · rcases h2 with h2 | ⟨-, h4⟩
    · omega
    · exact Int32.toInt_inj.mp (Int.le_antisymm h3 h4)
theorem all_num (n0 : 0 ≤ n) (n1 : n ≤ 10) : allK n = iZ (2 ^ n.toNat - 1) := by
  obtain ⟨m, rfl⟩ := nat_of n0
  rw [Int.toNat_natCast]
  have hp : (1 : Int) ≤ 2 ^ m := by
    have e : ((2 ^ m : Nat) : Int) = (2 : Int) ^ m := by exact_mod_cast rfl
    have : 0 < 2 ^ m := Nat.two_pow_pos m
    omega
  have hq : (2 : Int) ^ m ≤ 1024 := by
    have e : ((2 ^ m : Nat) : Int) = (2 : Int) ^ m := by exact_mod_cast rfl
    have : 2 ^ m ≤ 2 ^ 10 := Nat.pow_le_pow_right (by decide) (by omega)
    omega
  refine hb_ext (fun j j0 _ => ?_)
  rw [hb_all (by omega) (by omega) j0, hb_iZ (by omega) (by omega) j0]
  obtain ⟨i, rfl⟩ := nat_of j0
  have e : ((2 : Int) ^ m - 1).toNat = 2 ^ m - 1 := by
    have : ((2 ^ m : Nat) : Int) = (2 : Int) ^ m := by exact_mod_cast rfl
    omega
  rw [e, Int.toNat_natCast, Nat.testBit_two_pow_sub_one]
  by_cases h : i < m
  · rw [decide_eq_true h, decide_eq_true (by omega)]
  · rw [decide_eq_false h, decide_eq_false (by omega)]
theorem l_fewest (hm : Row f n N) (hc : Crd n N) (hn : 2 ≤ n ∧ n ≤ 10) (MF : MK n F) (d0 : 0 ≤ bd) (d1 : bd ≤ 50) {S : Int32} (h1 : feas N n F bd S) (h2 : ∀ K : Int32, feas N n F bd K → noW S K) : fL_fewest (iZ n) F (iZ bd) 36 f = some S := by
  obtain ⟨W, hW⟩ : ∃ W : Int, W = 2 ^ n.toNat - 1 := ⟨_, rfl⟩
  have hW1 : 3 ≤ W ∧ W ≤ 1023 := by
    obtain ⟨m, rfl⟩ := nat_of (show 0 ≤ n by omega)
    rw [Int.toNat_natCast] at hW
    have a1 : 2 ^ 2 ≤ 2 ^ m := Nat.pow_le_pow_right (by decide) (by omega)
    have a2 : 2 ^ m ≤ 2 ^ 10 := Nat.pow_le_pow_right (by decide) (by omega)
    have e : ((2 ^ m : Nat) : Int) = (2 : Int) ^ m := by exact_mod_cast rfl
    omega
  have eW : allK n = iZ W := by rw [hW]; exact all_num (by omega) hn.2
  have hi : ∀ s : Int, 0 ≤ s → s ≤ W → ∀ j : Int, n ≤ j → hb (iZ s) j = false := fun s s0 s1 j hj => by
    rw [hb_iZ s0 (by omega) (by omega)]
    refine Nat.testBit_lt_two_pow (Nat.lt_of_lt_of_le (m := 2 ^ n.toNat) ?_ (Nat.pow_le_pow_right (by decide) (by omega)))
    have e : ((2 ^ n.toNat : Nat) : Int) = (2 : Int) ^ n.toNat := by exact_mod_cast rfl
    omega
  have hB0 : feas N n F bd (iZ W) := by
    rw [← eW]
    refine ⟨MK_all ⟨hn.1, by omega⟩, fun j j0 hj => ?_, fun k k0 k1 hk => ?_⟩
    · rw [hb_all (by omega) (by omega) j0]
      exact decide_eq_true (MF.2.2.2 j j0 hj)
    · rw [hb_all (by omega) (by omega) (by omega), decide_eq_true (by omega)] at hk
      cases hk
  obtain ⟨r, g1, g2⟩ := lp_dn (f := bL_fewest_11 (iZ n) F (iZ bd) f 36) (fun s st => ∃ B : Int32, st = (B, iZ s) ∧ feas N n F bd B ∧ ∀ s' : Int, s < s' → s' ≤ W → feas N n F bd (iZ s') → noW B (iZ s')) (fun B => feas N n F bd B ∧ ∀ s' : Int, 0 < s' → s' ≤ W → feas N n F bd (iZ s') → noW B (iZ s')) (i := W) (n := 0) (by omega) (by
    rintro s st s0 s1 ⟨B, rfl, hB, hmin⟩
    have oB := l_ones (K := B) (n := n) (by omega) hn.2 (fun j hj => hB.1.hi j (by omega))
    have oS := l_ones (K := iZ s) (n := n) (by omega) hn.2 (hi s (by omega) s1)
    by_cases c1 : iZ s &&& F = F
    · have hsub := and_sub.mp c1
      have MSs : MK n (iZ s) := ⟨⟨hn.1, by omega⟩, hsub 0 (by omega) MF.2.1, hsub (n - 1) (by omega) MF.2.2.1, fun j j0 hj => by
        by_cases e : j < n
        · exact e
        · rw [hi s (by omega) s1 j (by omega)] at hj
          cases hj⟩
      by_cases c2 : cK B 24 < cK (iZ s) 24
      · refine ⟨(B, iZ (s - 1)), ?_, B, rfl, hB, fun s' a0 a1 hf => ?_⟩
        · simp (disch := omega) only [bL_fewest_11, c1, oB.1, oS.1, ← Int.sub_eq_add_neg, gd_true, gd_dec, lt_def, bind_s, isb_0, isb_1, iZ_add, iZ_sub, iZ_mul, iZ_neg, lZ_add, lZ_sub, lZ_mul, iZ_lt, iZ_le, iZ_eq, lZ_lt, lZ_le, lZ_eq, iZ_64, iZ_N, inb_Z, if_pos, if_neg, ↓reduceIte, Bool.true_eq_false, Bool.false_eq_true, li7, li8, li12, li14, li34, li35, li36, li40, li101, li0, li1, li2, li3, li4, li5, li6, li9, li10, li16, li20, li23, li24, li25, li31, li33, li44, li48, li49, li50, li51, li57, li59, li60, li63, li69, li70, li71, li72, li74, li99, li100, li119, li126, li250, li296, li297, li298, li299, li300, li301, li302, li303, li606, li1515, li1818, li16384, li1048576, li2147483647, li10000, lj0, lj1, lj10000]
        · by_cases e : s' = s
          · rw [e]; exact Or.inl c2
          · exact hmin s' (by omega) a1 hf
      · obtain ⟨b, e1, e2⟩ := l_near hm hc (by omega) MSs d0 d1
        cases b with
        | false =>
          refine ⟨(B, iZ (s - 1)), ?_, B, rfl, hB, fun s' a0 a1 hf => ?_⟩
          · simp (disch := omega) only [bL_fewest_11, c1, oB.1, oS.1, e1, bi_fa, ← Int.sub_eq_add_neg, gd_true, gd_dec, lt_def, bind_s, isb_0, isb_1, iZ_add, iZ_sub, iZ_mul, iZ_neg, lZ_add, lZ_sub, lZ_mul, iZ_lt, iZ_le, iZ_eq, lZ_lt, lZ_le, lZ_eq, iZ_64, iZ_N, inb_Z, if_pos, if_neg, ↓reduceIte, Bool.true_eq_false, Bool.false_eq_true, li7, li8, li12, li14, li34, li35, li36, li40, li101, li0, li1, li2, li3, li4, li5, li6, li9, li10, li16, li20, li23, li24, li25, li31, li33, li44, li48, li49, li50, li51, li57, li59, li60, li63, li69, li70, li71, li72, li74, li99, li100, li119, li126, li250, li296, li297, li298, li299, li300, li301, li302, li303, li606, li1515, li1818, li16384, li1048576, li2147483647, li10000, lj0, lj1, lj10000]
          · by_cases e : s' = s
            · rw [e] at hf
              have := e2.mpr hf.2.2
              cases this
            · exact hmin s' (by omega) a1 hf
        | true =>
          refine ⟨(iZ s, iZ (s - 1)), ?_, iZ s, rfl, ⟨MSs, hsub, e2.mp rfl⟩, fun s' a0 a1 hf => ?_⟩
          · simp (disch := omega) only [bL_fewest_11, c1, oB.1, oS.1, e1, bi_tr, ← Int.sub_eq_add_neg, gd_true, gd_dec, lt_def, bind_s, isb_0, isb_1, iZ_add, iZ_sub, iZ_mul, iZ_neg, lZ_add, lZ_sub, lZ_mul, iZ_lt, iZ_le, iZ_eq, lZ_lt, lZ_le, lZ_eq, iZ_64, iZ_N, inb_Z, if_pos, if_neg, ↓reduceIte, Bool.true_eq_false, Bool.false_eq_true, li7, li8, li12, li14, li34, li35, li36, li40, li101, li0, li1, li2, li3, li4, li5, li6, li9, li10, li16, li20, li23, li24, li25, li31, li33, li44, li48, li49, li50, li51, li57, li59, li60, li63, li69, li70, li71, li72, li74, li99, li100, li119, li126, li250, li296, li297, li298, li299, li300, li301, li302, li303, li606, li1515, li1818, li16384, li1048576, li2147483647, li10000, lj0, lj1, lj10000]
          · have hle : (iZ s).toInt ≤ (iZ s').toInt := by
              rw [iZ_T (by omega) (by omega), iZ_T (by omega) (by omega)]
              omega
            by_cases e : s' = s
            · rw [e]; exact Or.inr ⟨rfl, Int.le_refl _⟩
            · rcases hmin s' (by omega) a1 hf with h | ⟨h, -⟩
              · exact Or.inl (by omega)
              · by_cases e3 : cK (iZ s) 24 < cK (iZ s') 24
                · exact Or.inl e3
                · exact Or.inr ⟨by omega, hle⟩
    · refine ⟨(B, iZ (s - 1)), ?_, B, rfl, hB, fun s' a0 a1 hf => ?_⟩
      · simp (disch := omega) only [bL_fewest_11, c1, ← Int.sub_eq_add_neg, gd_true, gd_dec, lt_def, bind_s, isb_0, isb_1, iZ_add, iZ_sub, iZ_mul, iZ_neg, lZ_add, lZ_sub, lZ_mul, iZ_lt, iZ_le, iZ_eq, lZ_lt, lZ_le, lZ_eq, iZ_64, iZ_N, inb_Z, if_pos, if_neg, ↓reduceIte, Bool.true_eq_false, Bool.false_eq_true, li7, li8, li12, li14, li34, li35, li36, li40, li101, li0, li1, li2, li3, li4, li5, li6, li9, li10, li16, li20, li23, li24, li25, li31, li33, li44, li48, li49, li50, li51, li57, li59, li60, li63, li69, li70, li71, li72, li74, li99, li100, li119, li126, li250, li296, li297, li298, li299, li300, li301, li302, li303, li606, li1515, li1818, li16384, li1048576, li2147483647, li10000, lj0, lj1, lj10000]
      · by_cases e : s' = s
        · rw [e] at hf
          exact absurd (and_sub.mpr hf.2.1) c1
        · exact hmin s' (by omega) a1 hf) (by
    rintro st ⟨B, rfl, hB, hmin⟩
    refine ⟨B, ?_, hB, hmin⟩
    simp (disch := omega) only [bL_fewest_11, gd_true, gd_dec, lt_def, bind_s, isb_0, isb_1, iZ_add, iZ_sub, iZ_mul, iZ_neg, lZ_add, lZ_sub, lZ_mul, iZ_lt, iZ_le, iZ_eq, lZ_lt, lZ_le, lZ_eq, iZ_64, iZ_N, inb_Z, if_pos, if_neg, ↓reduceIte, Bool.true_eq_false, Bool.false_eq_true, li7, li8, li12, li14, li34, li35, li36, li40, li101, li0, li1, li2, li3, li4, li5, li6, li9, li10, li16, li20, li23, li24, li25, li31, li33, li44, li48, li49, li50, li51, li57, li59, li60, li63, li69, li70, li71, li72, li74, li99, li100, li119, li126, li250, li296, li297, li298, li299, li300, li301, li302, li303, li606, li1515, li1818, li16384, li1048576, li2147483647, li10000, lj0, lj1, lj10000]) (s := (iZ W, iZ W)) ⟨iZ W, rfl, hB0, fun s' a0 a1 => by omega⟩
  · have hS := g2.2
    have : r = S := by
      obtain ⟨m, hm1, hm2, hm3⟩ := set_num (K := S) (n := n) (by omega) hn.2 (fun j hj => h1.1.hi j (by omega))
      have pos : 0 < (m : Int) := by
        by_cases e : m = 0
        · subst e
          have := h1.1.2.1
          rw [hm1, hb_iZ (by omega) (by omega) (by omega)] at this
          cases this
        · omega
      have := hS m pos (by omega) (by rw [← hm1]; exact h1)
      rw [← hm1] at this
      exact this.anti (h2 r g2.1)
    subst this
    unfold fL_fewest lL_fewest_11
    have e : ((1 : Int32) <<< (iZ n &&& 31)) - 1 = iZ W := eW
    rw [e, g1, bind_s]
end LB
