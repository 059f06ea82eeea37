/-! the reference's fewest points; numbers of points -/
def sameM (u v : MS) : Prop := M_z v = M_z u ∧ M_saved v = M_saved u ∧ M_saves v = M_saves u ∧ M_slots v = M_slots u ∧ M_isTaken v = M_isTaken u ∧ M_text v = M_text u ∧ M_length v = M_length u ∧ M_thrown v = M_thrown u
theorem sameM.rf (u : MS) : sameM u u := ⟨rfl, rfl, rfl, rfl, rfl, rfl, rfl, rfl⟩
theorem sameM.tr {u v w : MS} (h : sameM u v) (k : sameM v w) : sameM u w := ⟨k.1.trans h.1, k.2.1.trans h.2.1, k.2.2.1.trans h.2.2.1, k.2.2.2.1.trans h.2.2.2.1, k.2.2.2.2.1.trans h.2.2.2.2.1, k.2.2.2.2.2.1.trans h.2.2.2.2.2.1, k.2.2.2.2.2.2.1.trans h.2.2.2.2.2.2.1, k.2.2.2.2.2.2.2.trans h.2.2.2.2.2.2.2⟩
theorem sameM.ab (u : MS) (q : Int64 × Int64) : sameM u (ab u q) := ⟨rfl, rfl, rfl, rfl, rfl, rfl, rfl, rfl⟩
theorem RMs.sm {u v : MS} {s n : Int} {N : Int → Int} {K : Int32} (R : RMs u s n N K) (h : sameM u v) : RMs v s n N K := by
  unfold RMs
  rw [h.1]
  exact R
theorem r_within {u : MS} {s n : Int} {N : Int → Int} {K : Int32} (R : RMs u s n N K) (hc : Crd n N) {k f t bd : Int} (k0 : 0 ≤ k) (k1 : k < n) (f0 : 0 ≤ f) (f1 : f < n) (t0 : 0 ≤ t) (t1 : t < n) (d0 : 0 ≤ bd) (d1 : bd ≤ 50) : ∃ q, fX6_isWithin (iZ s) (iZ k) (iZ f) (iZ t) (iZ bd) u = some (iZ (bi (decide (spD N k f t ≤ bd * bd * scD N f t))), ab u q) := by
  have hsc := scD_b hc f0 f1 t0 t1
  have hbb := mbd 50 50 2500 (a := bd) (b := bd) (by omega) (by omega) rfl
  have hb0 := sq_nn bd
  have b1 := abD_b hc k0 k1 f0 f1 t0 t1
  have b2 := beD_b (k := k) hc f0 f1 t0 t1
  have m1 := mbd 2500 19602 49005000 hbb (b := beD N k f t) (by omega) rfl
  have ke := (spD_eq (k := k) hc f0 f1 t0 t1).1
  have kc := key_cmp (pa := 1) (mo := bd * bd) (show 0 < beD N k f t by omega) (show 0 < scD N f t by omega) ke
  rw [Int.mul_one, Int.mul_one] at kc
  refine ⟨(lZ (abD N k f t), lZ (beD N k f t)), ?_⟩
  unfold fX6_isWithin
  rw [r_dist R hc k0 k1 f0 f1 t0 t1, bind_s]
  show ((if (iZ bd).toInt64 * (iZ bd).toInt64 * lZ (beD N k f t) < lZ (abD N k f t) then some 0 else some 1 : Option Int32).bind _) = _
  simp (disch := omega) only [gd_true, gd_dec, lt_def, bind_s, isb_0, isb_1, iZ_add, iZ_sub, iZ_mul, iZ_neg, lZ_add, lZ_sub, lZ_mul, iZ_lt, iZ_le, iZ_eq, lZ_lt, lZ_le, lZ_eq, iZ_64, iZ_N, inb_Z, if_pos, if_neg, ↓reduceIte, Bool.true_eq_false, Bool.false_eq_true, li0, li1, li2, li3, li4, li5, li6, li9, li10, li16, li20, li23, li24, li25, li31, li33, li44, li48, li49, li50, li51, li57, li59, li60, li63, li69, li70, li71, li72, li74, li99, li100, li119, li126, li250, li296, li297, li298, li299, li300, li301, li302, li303, li606, li1515, li1818, li16384, li1048576, li2147483647, li10000, lj0, lj1, lj10000]
  by_cases h : spD N k f t ≤ bd * bd * scD N f t
  · rw [if_neg (by have := kc.mpr h; omega), decide_eq_true h]
    rfl
  · rw [if_pos (by
      rcases Int.lt_or_le (bd * bd * beD N k f t) (abD N k f t) with z | z
      · exact z
      · exact absurd (kc.mp z) h), decide_eq_false h]
    rfl
theorem r_skip {u : MS} {s n : Int} {N : Int → Int} {K F : Int32} (R : RMs u s n N K) (hc : Crd n N) {f t bd : Int} (f0 : 0 ≤ f) (ft : f < t) (t1 : t < n) (d0 : 0 ≤ bd) (d1 : bd ≤ 50) : ∃ (b : Bool) (q : Int64 × Int64), (b = true ↔ okS N F bd f t) ∧ fX6_canSkip (iZ s) (iZ f) (iZ t) (iZ bd) F u = some (iZ (bi b), ab u q) := by
  have hn := R.1.2.2.2
  obtain ⟨r, h1, b, q, rfl, hb⟩ := lp_up (f := bX6_canSkip_8 (iZ s) (iZ f) (iZ t) (iZ bd) F) (fun k st => ∃ (b : Bool) (q : Int64 × Int64), st = (iZ (bi b), iZ k, ab u q) ∧ (b = true ↔ ∀ j : Int, f < j → j < k → hb F j = false ∧ spD N j f t ≤ bd * bd * scD N f t)) (fun r => ∃ (b : Bool) (q : Int64 × Int64), r = (iZ (bi b), ab u q) ∧ (b = true ↔ okS N F bd f t)) (i := f + 1) (n := t) (by omega) (by
    rintro k st k0 k1 ⟨b, q, rfl, hb1⟩
    have ch := r_has F (k := k) (by omega) (by omega)
    obtain ⟨q2, hw⟩ := r_within (R.ab q) hc (k := k) (f := f) (t := t) (by omega) (by omega) f0 (by omega) (by omega) t1 d0 d1
    rw [ab_ab] at hw
    cases b with
    | false =>
      refine ⟨(iZ (bi false), iZ (k + 1), ab u q), ?_, false, q, rfl, fun h => (by cases h), fun h => hb1.mpr (fun j a b => h j a (by omega))⟩
      simp (disch := omega) only [bX6_canSkip_8, bi_z, gd_true, gd_dec, lt_def, bind_s, isb_0, isb_1, iZ_add, iZ_sub, iZ_mul, iZ_neg, lZ_add, lZ_sub, lZ_mul, iZ_lt, iZ_le, iZ_eq, lZ_lt, lZ_le, lZ_eq, iZ_64, iZ_N, inb_Z, if_pos, if_neg, ↓reduceIte, Bool.true_eq_false, Bool.false_eq_true, li0, li1, li2, li3, li4, li5, li6, li9, li10, li16, li20, li23, li24, li25, li31, li33, li44, li48, li49, li50, li51, li57, li59, li60, li63, li69, li70, li71, li72, li74, li99, li100, li119, li126, li250, li296, li297, li298, li299, li300, li301, li302, li303, li606, li1515, li1818, li16384, li1048576, li2147483647, li10000, lj0, lj1, lj10000]
      rfl
    | true =>
      have hall := hb1.mp rfl
      cases hk : hb F k with
      | true =>
        refine ⟨(iZ (bi false), iZ (k + 1), ab u q), ?_, false, q, rfl, fun h => (by cases h), fun h => ?_⟩
        · rw [hk] at ch
          simp (disch := omega) only [bX6_canSkip_8, bi_z, ch, gd_true, gd_dec, lt_def, bind_s, isb_0, isb_1, iZ_add, iZ_sub, iZ_mul, iZ_neg, lZ_add, lZ_sub, lZ_mul, iZ_lt, iZ_le, iZ_eq, lZ_lt, lZ_le, lZ_eq, iZ_64, iZ_N, inb_Z, if_pos, if_neg, ↓reduceIte, Bool.true_eq_false, Bool.false_eq_true, li0, li1, li2, li3, li4, li5, li6, li9, li10, li16, li20, li23, li24, li25, li31, li33, li44, li48, li49, li50, li51, li57, li59, li60, li63, li69, li70, li71, li72, li74, li99, li100, li119, li126, li250, li296, li297, li298, li299, li300, li301, li302, li303, li606, li1515, li1818, li16384, li1048576, li2147483647, li10000, lj0, lj1, lj10000]
          rfl
        · have := (h k (by omega) (by omega)).1
          rw [hk] at this
          cases this
      | false =>
        rw [hk] at ch
        by_cases z : spD N k f t ≤ bd * bd * scD N f t
        · rw [decide_eq_true z] at hw
          refine ⟨(iZ (bi true), iZ (k + 1), ab u q2), ?_, true, q2, rfl, fun _ j a c => ?_, fun _ => rfl⟩
          · simp (disch := omega) only [bX6_canSkip_8, bi_z, ch, hw, gd_true, gd_dec, lt_def, bind_s, isb_0, isb_1, iZ_add, iZ_sub, iZ_mul, iZ_neg, lZ_add, lZ_sub, lZ_mul, iZ_lt, iZ_le, iZ_eq, lZ_lt, lZ_le, lZ_eq, iZ_64, iZ_N, inb_Z, if_pos, if_neg, ↓reduceIte, Bool.true_eq_false, Bool.false_eq_true, li0, li1, li2, li3, li4, li5, li6, li9, li10, li16, li20, li23, li24, li25, li31, li33, li44, li48, li49, li50, li51, li57, li59, li60, li63, li69, li70, li71, li72, li74, li99, li100, li119, li126, li250, li296, li297, li298, li299, li300, li301, li302, li303, li606, li1515, li1818, li16384, li1048576, li2147483647, li10000, lj0, lj1, lj10000]
            rfl
          · by_cases e : j = k
            · rw [e]; exact ⟨hk, z⟩
            · exact hall j a (by omega)
        · rw [decide_eq_false z] at hw
          refine ⟨(iZ (bi false), iZ (k + 1), ab u q2), ?_, false, q2, rfl, fun h => (by cases h), fun h => absurd (h k (by omega) (by omega)).2 z⟩
          simp (disch := omega) only [bX6_canSkip_8, bi_z, ch, hw, gd_true, gd_dec, lt_def, bind_s, isb_0, isb_1, iZ_add, iZ_sub, iZ_mul, iZ_neg, lZ_add, lZ_sub, lZ_mul, iZ_lt, iZ_le, iZ_eq, lZ_lt, lZ_le, lZ_eq, iZ_64, iZ_N, inb_Z, if_pos, if_neg, ↓reduceIte, Bool.true_eq_false, Bool.false_eq_true, li0, li1, li2, li3, li4, li5, li6, li9, li10, li16, li20, li23, li24, li25, li31, li33, li44, li48, li49, li50, li51, li57, li59, li60, li63, li69, li70, li71, li72, li74, li99, li100, li119, li126, li250, li296, li297, li298, li299, li300, li301, li302, li303, li606, li1515, li1818, li16384, li1048576, li2147483647, li10000, lj0, lj1, lj10000]
          rfl) (by
    rintro st ⟨b, q, rfl, hb1⟩
    refine ⟨(iZ (bi b), ab u q), ?_, b, q, rfl, hb1⟩
    simp (disch := omega) only [bX6_canSkip_8, gd_true, gd_dec, lt_def, bind_s, isb_0, isb_1, iZ_add, iZ_sub, iZ_mul, iZ_neg, lZ_add, lZ_sub, lZ_mul, iZ_lt, iZ_le, iZ_eq, lZ_lt, lZ_le, lZ_eq, iZ_64, iZ_N, inb_Z, if_pos, if_neg, ↓reduceIte, Bool.true_eq_false, Bool.false_eq_true, li0, li1, li2, li3, li4, li5, li6, li9, li10, li16, li20, li23, li24, li25, li31, li33, li44, li48, li49, li50, li51, li57, li59, li60, li63, li69, li70, li71, li72, li74, li99, li100, li119, li126, li250, li296, li297, li298, li299, li300, li301, li302, li303, li606, li1515, li1818, li16384, li1048576, li2147483647, li10000, lj0, lj1, lj10000]) (s := (iZ (bi true), iZ (f + 1), u)) ⟨true, (M_above u, M_below u), rfl, fun _ j a b => (by omega), fun _ => rfl⟩
  refine ⟨b, q, hb, ?_⟩
  unfold fX6_canSkip lX6_canSkip_8
  simp (disch := omega) only [gd_true, gd_dec, lt_def, bind_s, isb_0, isb_1, iZ_add, iZ_sub, iZ_mul, iZ_neg, lZ_add, lZ_sub, lZ_mul, iZ_lt, iZ_le, iZ_eq, lZ_lt, lZ_le, lZ_eq, iZ_64, iZ_N, inb_Z, if_pos, if_neg, ↓reduceIte, Bool.true_eq_false, Bool.false_eq_true, li0, li1, li2, li3, li4, li5, li6, li9, li10, li16, li20, li23, li24, li25, li31, li33, li44, li48, li49, li50, li51, li57, li59, li60, li63, li69, li70, li71, li72, li74, li99, li100, li119, li126, li250, li296, li297, li298, li299, li300, li301, li302, li303, li606, li1515, li1818, li16384, li1048576, li2147483647, li10000, lj0, lj1, lj10000]
  have e : lp (bX6_canSkip_8 (iZ s) (iZ f) (iZ t) (iZ bd) F) (iZ 1, iZ (f + 1), u) = some (iZ (bi b), ab u q) := h1
  rw [e]
  simp (disch := omega) only [bi_b, gd_true, gd_dec, lt_def, bind_s, isb_0, isb_1, iZ_add, iZ_sub, iZ_mul, iZ_neg, lZ_add, lZ_sub, lZ_mul, iZ_lt, iZ_le, iZ_eq, lZ_lt, lZ_le, lZ_eq, iZ_64, iZ_N, inb_Z, if_pos, if_neg, ↓reduceIte, Bool.true_eq_false, Bool.false_eq_true, li0, li1, li2, li3, li4, li5, li6, li9, li10, li16, li20, li23, li24, li25, li31, li33, li44, li48, li49, li50, li51, li57, li59, li60, li63, li69, li70, li71, li72, li74, li99, li100, li119, li126, li250, li296, li297, li298, li299, li300, li301, li302, li303, li606, li1515, li1818, li16384, li1048576, li2147483647, li10000, lj0, lj1, lj10000]
theorem nat_lt_bit {x y i : Nat} (hx : x.testBit i = false) (hy : y.testBit i = true) (h : ∀ j, i < j → x.testBit j = y.testBit j) : x < y := by
  have e : x / 2 ^ (i + 1) = y / 2 ^ (i + 1) := by
    apply Nat.eq_of_testBit_eq
    intro j
    rw [Nat.testBit_div_two_pow, Nat.testBit_div_two_pow]
    exact h _ (by omega)
  rw [Nat.testBit_eq_decide_div_mod_eq] at hx hy
  have hx := of_decide_eq_false hx
  have hy := of_decide_eq_true hy
  have p : ∀ z : Nat, z / 2 ^ (i + 1) = z / 2 ^ i / 2 := fun z => by rw [Nat.div_div_eq_div_mul, Nat.pow_succ]
  rw [p, p] at e
  rcases Nat.lt_or_ge x y with q | q
  · exact q
  · have := Nat.div_le_div_right (c := 2 ^ i) q
    omega
theorem lt_bits {X Y : Int32} {p : Int} (p0 : 0 ≤ p) (p1 : p < 31) (hX : hb X p = false) (hY : hb Y p = true) (h : ∀ j : Int, p < j → hb X j = hb Y j) (hz : hb Y 31 = false) : X < Y := by
  have hz2 : hb X 31 = false := by rw [h 31 (by omega)]; exact hz
  have m1 : Y.toBitVec.msb = false := by rw [BitVec.msb_eq_getLsbD_last]; exact hz
  have m2 : X.toBitVec.msb = false := by rw [BitVec.msb_eq_getLsbD_last]; exact hz2
  have t1 : Y.toInt = (Y.toBitVec.toNat : Int) := BitVec.toInt_eq_toNat_of_msb m1
  have t2 : X.toInt = (X.toBitVec.toNat : Int) := BitVec.toInt_eq_toNat_of_msb m2
  rw [Int32.lt_iff_toInt_lt, t1, t2]
  have : X.toBitVec.toNat < Y.toBitVec.toNat := by
    refine nat_lt_bit (i := p.toNat) ?_ ?_ ?_
    · rw [BitVec.testBit_toNat]; exact hX
    · rw [BitVec.testBit_toNat]; exact hY
    · intro j hj
      rw [BitVec.testBit_toNat, BitVec.testBit_toNat]
      have := h j (by omega)
      unfold hb at this
      rw [show ((j : Int)).toNat = j by omega] at this
      exact this
  omega
def M_fw (u : MS) (j : Int) : Int32 := M_fewest u j.toNat
def M_st (u : MS) (j : Int) : Int32 := M_sets u j.toNat
theorem Tab.or_le {N : Int → Int} {F : Int32} {bd to : Int} {C : Int → Int} {S : Int → Int32} (T : Tab N F bd to C S) (h24 : to < 24) {b k : Int} (b0 : 0 ≤ b) (bk : b < k) (k1 : k < to) : S b ||| bitZ to ≤ S k ||| bitZ to := by
  obtain ⟨-, -, b2, b3⟩ := T.b (by omega) b0 (show b < to by omega)
  obtain ⟨-, -, c2, c3⟩ := T.b (by omega) (show 0 ≤ k by omega) k1
  have o1 : ∀ X : Int32, ∀ j : Int, 0 ≤ j → hb (X ||| bitZ to) j = (hb X j || decide (j = to)) := fun X j j0 => hb_or (by omega) (by omega) j0
  refine Int32.le_of_lt (lt_bits (p := k) (by omega) (by omega) ?_ ?_ (fun j hj => ?_) ?_)
  · rw [o1 _ _ (by omega), b3 k bk, decide_eq_false (by omega)]; rfl
  · rw [o1 _ _ (by omega), c2]; rfl
  · rw [o1 _ _ (by omega), o1 _ _ (by omega), b3 j (by omega), c3 j hj]
  · rw [o1 _ _ (by omega), c3 31 (by omega), decide_eq_false (by omega)]; rfl
theorem r_fewIn {u : MS} {s n : Int} {N : Int → Int} {K F : Int32} (R : RMs u s n N K) (hc : Crd n N) {bd : Int} (hn : n ≤ 24) (d0 : 0 ≤ bd) (d1 : bd ≤ 50) {C : Int → Int} {S : Int → Int32} {to : Int} (T : Tab N F bd to C S) (t0 : 0 < to) (t1 : to < n) {b : Int} (hB : IsBst C (fun j => okS N F bd j to) to b) (hR : ∀ j : Int, 0 ≤ j → j < to → M_fewest u j.toNat = iZ (C j) ∧ M_sets u j.toNat = S j) (hz : M_fewest u to.toNat = iZ 0) : ∃ v : MS, sameM u v ∧ (∀ j : Int, 0 ≤ j → j < to → M_fewest v j.toNat = iZ (C j) ∧ M_sets v j.toNat = S j) ∧ M_fewest v to.toNat = iZ (C b + 1) ∧ M_sets v to.toNat = S b ||| bitZ to ∧ lX6_fewestPoints_44 (iZ s) (iZ bd) F (iZ to) (iZ 0) u = some v := by
  have hCb : ∀ j : Int, 0 ≤ j → j < to → 1 ≤ C j ∧ C j ≤ 24 := fun j j0 j1 => by have := (T.b (by omega) j0 j1).1; omega
  obtain ⟨r, h1, h2⟩ := lp_up (f := bX6_fewestPoints_44 (iZ s) (iZ bd) F (iZ to)) (fun k st => ∃ v : MS, st = (iZ k, v) ∧ sameM u v ∧ (∀ j : Int, 0 ≤ j → j < to → M_fewest v j.toNat = iZ (C j) ∧ M_sets v j.toNat = S j) ∧ ((M_fewest v to.toNat = iZ 0 ∧ ∀ j : Int, 0 ≤ j → j < k → ¬ okS N F bd j to) ∨ ∃ b : Int, IsBst C (fun j => okS N F bd j to) k b ∧ M_fewest v to.toNat = iZ (C b + 1) ∧ M_sets v to.toNat = S b ||| bitZ to)) (fun v => sameM u v ∧ (∀ j : Int, 0 ≤ j → j < to → M_fewest v j.toNat = iZ (C j) ∧ M_sets v j.toNat = S j) ∧ M_fewest v to.toNat = iZ (C b + 1) ∧ M_sets v to.toNat = S b ||| bitZ to) (i := 0) (n := to) (by omega) (by
    rintro k st k0 k1 ⟨v, rfl, hs, hr, hI⟩
    have Rv := R.sm hs
    obtain ⟨ok, q, hok, hsk⟩ := r_skip (F := F) Rv hc (f := k) (t := to) (bd := bd) k0 k1 t1 d0 d1
    obtain ⟨r1, r2⟩ := hr k k0 k1
    have hCk := hCb k k0 k1
    have sb : sameM u (ab v q) := hs.tr (sameM.ab v q)
    -- what an update leaves
    have upd1 : ∃ w : MS, sameM u w ∧ (∀ j : Int, 0 ≤ j → j < to → M_fewest w j.toNat = iZ (C j) ∧ M_sets w j.toNat = S j) ∧ M_fewest w to.toNat = iZ (C k + 1) ∧ M_sets w to.toNat = S k ||| bitZ to ∧ w = M_s_sets (M_s_fewest (ab v q) (upd (M_fewest (ab v q)) to.toNat (iZ (C k + 1)))) (upd (M_sets (M_s_fewest (ab v q) (upd (M_fewest (ab v q)) to.toNat (iZ (C k + 1))))) to.toNat (S k ||| bitZ to)) := by
      refine ⟨M_s_sets (M_s_fewest (ab v q) (upd (M_fewest (ab v q)) to.toNat (iZ (C k + 1)))) (upd (M_sets (M_s_fewest (ab v q) (upd (M_fewest (ab v q)) to.toNat (iZ (C k + 1))))) to.toNat (S k ||| bitZ to)), ⟨sb.1, sb.2.1, sb.2.2.1, sb.2.2.2.1, sb.2.2.2.2.1, sb.2.2.2.2.2.1, sb.2.2.2.2.2.2.1, sb.2.2.2.2.2.2.2⟩, fun j j0 j1 => ?_, ?_, ?_, rfl⟩
      · obtain ⟨e1, e2⟩ := hr j j0 j1
        refine ⟨Eq.trans (upd_n (by omega)) e1, Eq.trans (upd_n (by omega)) e2⟩
      · exact upd_s
      · exact upd_s
    have keep : ∀ w : MS, sameM u w → M_fewest w = M_fewest v → M_sets w = M_sets v → ∀ j : Int, 0 ≤ j → j < to → M_fewest w j.toNat = iZ (C j) ∧ M_sets w j.toNat = S j := by
      intro w _ e1 e2 j j0 j1
      rw [e1, e2]
      exact hr j j0 j1
    -- the better one
    have better : bX6_fewestPoints_44 (iZ s) (iZ bd) F (iZ to) (iZ k, v) = some (.inl (iZ (k + 1), if ok = true then M_s_sets (M_s_fewest (ab v q) (upd (M_fewest (ab v q)) to.toNat (iZ (C k + 1)))) (upd (M_sets (M_s_fewest (ab v q) (upd (M_fewest (ab v q)) to.toNat (iZ (C k + 1))))) to.toNat (S k ||| bitZ to)) else ab v q)) ∨ bX6_fewestPoints_44 (iZ s) (iZ bd) F (iZ to) (iZ k, v) = some (.inl (iZ (k + 1), v)) ∧ ∃ b : Int, IsBst C (fun j => okS N F bd j to) k b ∧ M_fewest v to.toNat = iZ (C b + 1) ∧ M_sets v to.toNat = S b ||| bitZ to ∧ C b ≤ C k := by
      have hup : ∀ x : Int32, x = iZ 1 → True := fun _ _ => trivial
      have f1 : M_fewest (ab v q) = M_fewest v := rfl
      have f2 : M_sets (ab v q) = M_sets v := rfl
      have f3 : ∀ x, M_sets (M_s_fewest (ab v q) x) = M_sets v := fun _ => rfl
      have go : ok = true ∨ ok = false := by cases ok <;> simp
      rcases hI with ⟨e, -⟩ | ⟨c, hC, e1, e2⟩
      · refine Or.inl ?_
        rcases go with g | g
        · rw [g] at hsk
          simp (disch := omega) only [bX6_fewestPoints_44, e, hsk, bi_z, f1, f2, f3, r1, r2, g, gd_true, gd_dec, lt_def, bind_s, isb_0, isb_1, iZ_add, iZ_sub, iZ_mul, iZ_neg, lZ_add, lZ_sub, lZ_mul, iZ_lt, iZ_le, iZ_eq, lZ_lt, lZ_le, lZ_eq, iZ_64, iZ_N, inb_Z, if_pos, if_neg, ↓reduceIte, Bool.true_eq_false, Bool.false_eq_true, li0, li1, li2, li3, li4, li5, li6, li9, li10, li16, li20, li23, li24, li25, li31, li33, li44, li48, li49, li50, li51, li57, li59, li60, li63, li69, li70, li71, li72, li74, li99, li100, li119, li126, li250, li296, li297, li298, li299, li300, li301, li302, li303, li606, li1515, li1818, li16384, li1048576, li2147483647, li10000, lj0, lj1, lj10000]
          rfl
        · rw [g] at hsk
          simp (disch := omega) only [bX6_fewestPoints_44, e, hsk, bi_z, g, gd_true, gd_dec, lt_def, bind_s, isb_0, isb_1, iZ_add, iZ_sub, iZ_mul, iZ_neg, lZ_add, lZ_sub, lZ_mul, iZ_lt, iZ_le, iZ_eq, lZ_lt, lZ_le, lZ_eq, iZ_64, iZ_N, inb_Z, if_pos, if_neg, ↓reduceIte, Bool.true_eq_false, Bool.false_eq_true, li0, li1, li2, li3, li4, li5, li6, li9, li10, li16, li20, li23, li24, li25, li31, li33, li44, li48, li49, li50, li51, li57, li59, li60, li63, li69, li70, li71, li72, li74, li99, li100, li119, li126, li250, li296, li297, li298, li299, li300, li301, li302, li303, li606, li1515, li1818, li16384, li1048576, li2147483647, li10000, lj0, lj1, lj10000]
      · have hCc := hCb c hC.1.1 (by have := hC.1.2; omega)
        by_cases z : C k < C c
        · refine Or.inl ?_
          rcases go with g | g
          · rw [g] at hsk
            simp (disch := omega) only [bX6_fewestPoints_44, e1, hsk, bi_z, f1, f2, f3, r1, r2, g, gd_true, gd_dec, lt_def, bind_s, isb_0, isb_1, iZ_add, iZ_sub, iZ_mul, iZ_neg, lZ_add, lZ_sub, lZ_mul, iZ_lt, iZ_le, iZ_eq, lZ_lt, lZ_le, lZ_eq, iZ_64, iZ_N, inb_Z, if_pos, if_neg, ↓reduceIte, Bool.true_eq_false, Bool.false_eq_true, li0, li1, li2, li3, li4, li5, li6, li9, li10, li16, li20, li23, li24, li25, li31, li33, li44, li48, li49, li50, li51, li57, li59, li60, li63, li69, li70, li71, li72, li74, li99, li100, li119, li126, li250, li296, li297, li298, li299, li300, li301, li302, li303, li606, li1515, li1818, li16384, li1048576, li2147483647, li10000, lj0, lj1, lj10000]
            rfl
          · rw [g] at hsk
            simp (disch := omega) only [bX6_fewestPoints_44, e1, r1, hsk, bi_z, g, gd_true, gd_dec, lt_def, bind_s, isb_0, isb_1, iZ_add, iZ_sub, iZ_mul, iZ_neg, lZ_add, lZ_sub, lZ_mul, iZ_lt, iZ_le, iZ_eq, lZ_lt, lZ_le, lZ_eq, iZ_64, iZ_N, inb_Z, if_pos, if_neg, ↓reduceIte, Bool.true_eq_false, Bool.false_eq_true, li0, li1, li2, li3, li4, li5, li6, li9, li10, li16, li20, li23, li24, li25, li31, li33, li44, li48, li49, li50, li51, li57, li59, li60, li63, li69, li70, li71, li72, li74, li99, li100, li119, li126, li250, li296, li297, li298, li299, li300, li301, li302, li303, li606, li1515, li1818, li16384, li1048576, li2147483647, li10000, lj0, lj1, lj10000]
        · refine Or.inr ⟨?_, c, hC, e1, e2, by omega⟩
          have hle := T.or_le (by omega) hC.1.1 hC.1.2 k1
          by_cases y : C k = C c
          · simp (disch := omega) only [bX6_fewestPoints_44, e1, e2, r1, r2, gd_true, gd_dec, lt_def, bind_s, isb_0, isb_1, iZ_add, iZ_sub, iZ_mul, iZ_neg, lZ_add, lZ_sub, lZ_mul, iZ_lt, iZ_le, iZ_eq, lZ_lt, lZ_le, lZ_eq, iZ_64, iZ_N, inb_Z, if_pos, if_neg, ↓reduceIte, Bool.true_eq_false, Bool.false_eq_true, li0, li1, li2, li3, li4, li5, li6, li9, li10, li16, li20, li23, li24, li25, li31, li33, li44, li48, li49, li50, li51, li57, li59, li60, li63, li69, li70, li71, li72, li74, li99, li100, li119, li126, li250, li296, li297, li298, li299, li300, li301, li302, li303, li606, li1515, li1818, li16384, li1048576, li2147483647, li10000, lj0, lj1, lj10000]
            rw [if_pos (show S c ||| bitZ to ≤ S k ||| (iZ 1 <<< (iZ to &&& iZ 31)) from hle)]
            simp (disch := omega) only [gd_true, gd_dec, lt_def, bind_s, isb_0, isb_1, iZ_add, iZ_sub, iZ_mul, iZ_neg, lZ_add, lZ_sub, lZ_mul, iZ_lt, iZ_le, iZ_eq, lZ_lt, lZ_le, lZ_eq, iZ_64, iZ_N, inb_Z, if_pos, if_neg, ↓reduceIte, Bool.true_eq_false, Bool.false_eq_true, li0, li1, li2, li3, li4, li5, li6, li9, li10, li16, li20, li23, li24, li25, li31, li33, li44, li48, li49, li50, li51, li57, li59, li60, li63, li69, li70, li71, li72, li74, li99, li100, li119, li126, li250, li296, li297, li298, li299, li300, li301, li302, li303, li606, li1515, li1818, li16384, li1048576, li2147483647, li10000, lj0, lj1, lj10000]
          · simp (disch := omega) only [bX6_fewestPoints_44, e1, r1, gd_true, gd_dec, lt_def, bind_s, isb_0, isb_1, iZ_add, iZ_sub, iZ_mul, iZ_neg, lZ_add, lZ_sub, lZ_mul, iZ_lt, iZ_le, iZ_eq, lZ_lt, lZ_le, lZ_eq, iZ_64, iZ_N, inb_Z, if_pos, if_neg, ↓reduceIte, Bool.true_eq_false, Bool.false_eq_true, li0, li1, li2, li3, li4, li5, li6, li9, li10, li16, li20, li23, li24, li25, li31, li33, li44, li48, li49, li50, li51, li57, li59, li60, li63, li69, li70, li71, li72, li74, li99, li100, li119, li126, li250, li296, li297, li298, li299, li300, li301, li302, li303, li606, li1515, li1818, li16384, li1048576, li2147483647, li10000, lj0, lj1, lj10000]
    rcases better with hst | ⟨hst, c, hC, e1, e2, hle⟩
    · cases hk : ok with
      | true =>
        rw [hk, if_pos rfl] at hst
        have hokk := hok.mp hk
        obtain ⟨w, w1, w2, w3, w4, w5⟩ := upd1
        refine ⟨(iZ (k + 1), w), by rw [hst, w5], w, rfl, w1, w2, ?_⟩
        rcases hI with ⟨e, hno⟩ | ⟨c, hC, e1, e2⟩
        · exact Or.inr ⟨k, ⟨⟨k0, by omega⟩, hokk, fun j j0 j1 y => by
            by_cases ej : j = k
            · rw [ej]; exact Int.le_refl _
            · exact absurd y (hno j j0 (by omega)), fun j j0 j1 y => absurd y (hno j j0 (by omega))⟩, w3, w4⟩
        · by_cases z : C k < C c
          · exact Or.inr ⟨k, ⟨⟨k0, by omega⟩, hokk, fun j j0 j1 y => by
              by_cases ej : j = k
              · rw [ej]; exact Int.le_refl _
              · have := hC.2.2.1 j j0 (by omega) y; omega, fun j j0 j1 y => by have := hC.2.2.1 j j0 (by omega) y; omega⟩, w3, w4⟩
          · -- not better: the step cannot have been this one
            exfalso
            have hCc := hCb c hC.1.1 (by have := hC.1.2; omega)
            have hle := T.or_le (by omega) hC.1.1 hC.1.2 k1
            have hst2 : bX6_fewestPoints_44 (iZ s) (iZ bd) F (iZ to) (iZ k, v) = some (.inl (iZ (k + 1), v)) := by
              by_cases y : C k = C c
              · simp (disch := omega) only [bX6_fewestPoints_44, e1, e2, r1, r2, gd_true, gd_dec, lt_def, bind_s, isb_0, isb_1, iZ_add, iZ_sub, iZ_mul, iZ_neg, lZ_add, lZ_sub, lZ_mul, iZ_lt, iZ_le, iZ_eq, lZ_lt, lZ_le, lZ_eq, iZ_64, iZ_N, inb_Z, if_pos, if_neg, ↓reduceIte, Bool.true_eq_false, Bool.false_eq_true, li0, li1, li2, li3, li4, li5, li6, li9, li10, li16, li20, li23, li24, li25, li31, li33, li44, li48, li49, li50, li51, li57, li59, li60, li63, li69, li70, li71, li72, li74, li99, li100, li119, li126, li250, li296, li297, li298, li299, li300, li301, li302, li303, li606, li1515, li1818, li16384, li1048576, li2147483647, li10000, lj0, lj1, lj10000]
                rw [if_pos (show S c ||| bitZ to ≤ S k ||| (iZ 1 <<< (iZ to &&& iZ 31)) from hle)]
                simp (disch := omega) only [gd_true, gd_dec, lt_def, bind_s, isb_0, isb_1, iZ_add, iZ_sub, iZ_mul, iZ_neg, lZ_add, lZ_sub, lZ_mul, iZ_lt, iZ_le, iZ_eq, lZ_lt, lZ_le, lZ_eq, iZ_64, iZ_N, inb_Z, if_pos, if_neg, ↓reduceIte, Bool.true_eq_false, Bool.false_eq_true, li0, li1, li2, li3, li4, li5, li6, li9, li10, li16, li20, li23, li24, li25, li31, li33, li44, li48, li49, li50, li51, li57, li59, li60, li63, li69, li70, li71, li72, li74, li99, li100, li119, li126, li250, li296, li297, li298, li299, li300, li301, li302, li303, li606, li1515, li1818, li16384, li1048576, li2147483647, li10000, lj0, lj1, lj10000]
              · simp (disch := omega) only [bX6_fewestPoints_44, e1, r1, gd_true, gd_dec, lt_def, bind_s, isb_0, isb_1, iZ_add, iZ_sub, iZ_mul, iZ_neg, lZ_add, lZ_sub, lZ_mul, iZ_lt, iZ_le, iZ_eq, lZ_lt, lZ_le, lZ_eq, iZ_64, iZ_N, inb_Z, if_pos, if_neg, ↓reduceIte, Bool.true_eq_false, Bool.false_eq_true, li0, li1, li2, li3, li4, li5, li6, li9, li10, li16, li20, li23, li24, li25, li31, li33, li44, li48, li49, li50, li51, li57, li59, li60, li63, li69, li70, li71, li72, li74, li99, li100, li119, li126, li250, li296, li297, li298, li299, li300, li301, li302, li303, li606, li1515, li1818, li16384, li1048576, li2147483647, li10000, lj0, lj1, lj10000]
            rw [hst] at hst2
            have e3 : w = v := by
              rw [w5]
              have := Option.some.inj hst2
              have := Sum.inl.inj this
              exact (Prod.mk.inj this).2
            rw [e3, e2] at w4
            obtain ⟨-, -, b2, b3⟩ := T.b (by omega) hC.1.1 (show c < to by have := hC.1.2; omega)
            obtain ⟨-, -, c2, c3⟩ := T.b (by omega) k0 k1
            have o1 : ∀ X : Int32, ∀ j : Int, 0 ≤ j → hb (X ||| bitZ to) j = (hb X j || decide (j = to)) := fun X j j0 => hb_or (by omega) (by omega) j0
            have this : hb (S c ||| bitZ to) k = hb (S k ||| bitZ to) k := by rw [w4]
            rw [o1 _ _ k0, o1 _ _ k0, b3 k hC.1.2, c2, decide_eq_false (by omega)] at this
            cases this
      | false =>
        rw [hk] at hst
        have hnok : ¬ okS N F bd k to := fun z => by have := hok.mpr z; rw [hk] at this; cases this
        refine ⟨(iZ (k + 1), ab v q), hst, ab v q, rfl, sb, keep _ sb rfl rfl, ?_⟩
        rcases hI with ⟨e, hno⟩ | ⟨c, hC, e1, e2⟩
        · refine Or.inl ⟨e, fun j j0 j1 => ?_⟩
          by_cases ej : j = k
          · rw [ej]; exact hnok
          · exact hno j j0 (by omega)
        · exact Or.inr ⟨c, ⟨⟨hC.1.1, by have := hC.1.2; omega⟩, hC.2.1, fun j j0 j1 y => by
            by_cases ej : j = k
            · rw [ej] at y; exact absurd y hnok
            · exact hC.2.2.1 j j0 (by omega) y, hC.2.2.2⟩, e1, e2⟩
    · refine ⟨(iZ (k + 1), v), hst, v, rfl, hs, hr, Or.inr ⟨c, ⟨⟨hC.1.1, by have := hC.1.2; omega⟩, hC.2.1, fun j j0 j1 y => ?_, hC.2.2.2⟩, e1, e2⟩⟩
      by_cases ej : j = k
      · rw [ej]; exact hle
      · exact hC.2.2.1 j j0 (by omega) y) (by
    rintro st ⟨v, rfl, hs, hr, hI⟩
    refine ⟨v, ?_, hs, hr, ?_⟩
    · simp (disch := omega) only [bX6_fewestPoints_44, gd_true, gd_dec, lt_def, bind_s, isb_0, isb_1, iZ_add, iZ_sub, iZ_mul, iZ_neg, lZ_add, lZ_sub, lZ_mul, iZ_lt, iZ_le, iZ_eq, lZ_lt, lZ_le, lZ_eq, iZ_64, iZ_N, inb_Z, if_pos, if_neg, ↓reduceIte, Bool.true_eq_false, Bool.false_eq_true, li0, li1, li2, li3, li4, li5, li6, li9, li10, li16, li20, li23, li24, li25, li31, li33, li44, li48, li49, li50, li51, li57, li59, li60, li63, li69, li70, li71, li72, li74, li99, li100, li119, li126, li250, li296, li297, li298, li299, li300, li301, li302, li303, li606, li1515, li1818, li16384, li1048576, li2147483647, li10000, lj0, lj1, lj10000]
    · rcases hI with ⟨e, hno⟩ | ⟨c, hC, e1, e2⟩
      · exact absurd (okS_last N F bd to) (hno (to - 1) (by omega) (by omega))
      · rw [IsBst.uniq hB hC]
        exact ⟨e1, e2⟩) (s := (iZ 0, u)) ⟨u, rfl, sameM.rf u, hR, Or.inl ⟨hz, fun j a b => by omega⟩⟩
  exact ⟨r, h2.1, h2.2.1, h2.2.2.1, h2.2.2.2, h1⟩
theorem r_fewest {u : MS} {s n : Int} {N : Int → Int} {K F : Int32} (R : RMs u s n N K) (hc : Crd n N) {bd : Int} (hn : 2 ≤ n ∧ n ≤ 24) (d0 : 0 ≤ bd) (d1 : bd ≤ 50) (hFx : fX6_fixedSet (iZ s) u = some F) {C : Int → Int} {S : Int → Int32} (T : Tab N F bd n C S) : ∃ v : MS, sameM u v ∧ fX6_fewestPoints (iZ s) (iZ bd) u = some (S (n - 1), v) := by
  have start : sameM u (M_s_sets (M_s_fewest u (upd (M_fewest u) 0 (iZ 1))) (upd (M_sets (M_s_fewest u (upd (M_fewest u) 0 (iZ 1)))) 0 (iZ 1))) := ⟨rfl, rfl, rfl, rfl, rfl, rfl, rfl, rfl⟩
  obtain ⟨v, h1, hs, hr⟩ := lp_up (f := bX6_fewestPoints_23 (iZ s) (iZ bd) F) (fun t st => ∃ v : MS, st = (iZ t, v) ∧ sameM u v ∧ ∀ j : Int, 0 ≤ j → j < t → M_fewest v j.toNat = iZ (C j) ∧ M_sets v j.toNat = S j) (fun v => sameM u v ∧ ∀ j : Int, 0 ≤ j → j < n → M_fewest v j.toNat = iZ (C j) ∧ M_sets v j.toNat = S j) (i := 1) (n := n) (by omega) (by
    rintro t st t0 t1 ⟨v, rfl, hs, hr⟩
    have Rv := R.sm hs
    have s2 : sameM u (M_s_fewest v (upd (M_fewest v) t.toNat (iZ 0))) := hs.tr ⟨rfl, rfl, rfl, rfl, rfl, rfl, rfl, rfl⟩
    have T2 : Tab N F bd t C S := ⟨T.1, T.2.1, fun a b c => T.2.2 a b (by omega)⟩
    obtain ⟨b, hB, hC, hS⟩ := T.2.2 t (by omega) t1
    obtain ⟨w, w1, w2, w3, w4, w5⟩ := r_fewIn (R.sm s2) hc hn.2 d0 d1 T2 (by omega) t1 hB (fun j j0 j1 => by
      obtain ⟨e1, e2⟩ := hr j j0 j1
      exact ⟨Eq.trans (upd_n (by omega)) e1, e2⟩) upd_s
    refine ⟨(iZ (t + 1), w), ?_, w, rfl, s2.tr w1, fun j j0 j1 => ?_⟩
    · simp (disch := omega) only [bX6_fewestPoints_23, r_pts Rv, w5, gd_true, gd_dec, lt_def, bind_s, isb_0, isb_1, iZ_add, iZ_sub, iZ_mul, iZ_neg, lZ_add, lZ_sub, lZ_mul, iZ_lt, iZ_le, iZ_eq, lZ_lt, lZ_le, lZ_eq, iZ_64, iZ_N, inb_Z, if_pos, if_neg, ↓reduceIte, Bool.true_eq_false, Bool.false_eq_true, li0, li1, li2, li3, li4, li5, li6, li9, li10, li16, li20, li23, li24, li25, li31, li33, li44, li48, li49, li50, li51, li57, li59, li60, li63, li69, li70, li71, li72, li74, li99, li100, li119, li126, li250, li296, li297, li298, li299, li300, li301, li302, li303, li606, li1515, li1818, li16384, li1048576, li2147483647, li10000, lj0, lj1, lj10000]
    · by_cases e : j = t
      · rw [e, w3, w4, hC, hS]
        exact ⟨rfl, rfl⟩
      · exact w2 j j0 (by omega)) (by
    rintro st ⟨v, rfl, hs, hr⟩
    refine ⟨v, ?_, hs, hr⟩
    simp (disch := omega) only [bX6_fewestPoints_23, r_pts (R.sm hs), gd_true, gd_dec, lt_def, bind_s, isb_0, isb_1, iZ_add, iZ_sub, iZ_mul, iZ_neg, lZ_add, lZ_sub, lZ_mul, iZ_lt, iZ_le, iZ_eq, lZ_lt, lZ_le, lZ_eq, iZ_64, iZ_N, inb_Z, if_pos, if_neg, ↓reduceIte, Bool.true_eq_false, Bool.false_eq_true, li0, li1, li2, li3, li4, li5, li6, li9, li10, li16, li20, li23, li24, li25, li31, li33, li44, li48, li49, li50, li51, li57, li59, li60, li63, li69, li70, li71, li72, li74, li99, li100, li119, li126, li250, li296, li297, li298, li299, li300, li301, li302, li303, li606, li1515, li1818, li16384, li1048576, li2147483647, li10000, lj0, lj1, lj10000]) (s := (iZ 1, M_s_sets (M_s_fewest u (upd (M_fewest u) 0 (iZ 1))) (upd (M_sets (M_s_fewest u (upd (M_fewest u) 0 (iZ 1)))) 0 (iZ 1)))) ⟨_, rfl, start, fun j a b => by
      rw [show j = 0 by omega, T.1, T.2.1]
      exact ⟨upd_s (f := M_fewest u) (k := 0) (x := iZ 1), upd_s (f := M_sets u) (k := 0) (x := iZ 1)⟩⟩
  refine ⟨v, hs, ?_⟩
  have i_0 : (iZ 0).toNatClampNeg = 0 := by decide
  have hl := (hr (n - 1) (by omega) (by omega)).2
  unfold fX6_fewestPoints lX6_fewestPoints_23
  rw [hFx, bind_s]
  simp (disch := omega) only [i_0, gd_true, gd_dec, lt_def, bind_s, isb_0, isb_1, iZ_add, iZ_sub, iZ_mul, iZ_neg, lZ_add, lZ_sub, lZ_mul, iZ_lt, iZ_le, iZ_eq, lZ_lt, lZ_le, lZ_eq, iZ_64, iZ_N, inb_Z, if_pos, if_neg, ↓reduceIte, Bool.true_eq_false, Bool.false_eq_true, li0, li1, li2, li3, li4, li5, li6, li9, li10, li16, li20, li23, li24, li25, li31, li33, li44, li48, li49, li50, li51, li57, li59, li60, li63, li69, li70, li71, li72, li74, li99, li100, li119, li126, li250, li296, li297, li298, li299, li300, li301, li302, li303, li606, li1515, li1818, li16384, li1048576, li2147483647, li10000, lj0, lj1, lj10000]
  rw [h1]
  simp (disch := omega) only [r_pts (R.sm hs), hl, gd_true, gd_dec, lt_def, bind_s, isb_0, isb_1, iZ_add, iZ_sub, iZ_mul, iZ_neg, lZ_add, lZ_sub, lZ_mul, iZ_lt, iZ_le, iZ_eq, lZ_lt, lZ_le, lZ_eq, iZ_64, iZ_N, inb_Z, if_pos, if_neg, ↓reduceIte, Bool.true_eq_false, Bool.false_eq_true, li0, li1, li2, li3, li4, li5, li6, li9, li10, li16, li20, li23, li24, li25, li31, li33, li44, li48, li49, li50, li51, li57, li59, li60, li63, li69, li70, li71, li72, li74, li99, li100, li119, li126, li250, li296, li297, li298, li299, li300, li301, li302, li303, li606, li1515, li1818, li16384, li1048576, li2147483647, li10000, lj0, lj1, lj10000]
