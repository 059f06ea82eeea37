/-! the fewest points -/
theorem c_cell {f : Nat → Int32} {j : Int} {na : Nat} (h0 : 0 ≤ j) (h1 : j < na) (h2 : na ≤ 1000) : fX5_cell (iZ j) na f = some (f j.toNat) := by
  have e : Int32.ofNat na = iZ (na : Int) := Int32.ofInt_eq_ofNat.symm
  unfold fX5_cell
  rw [e]
  simp (disch := omega) only [gd_true, gd_dec, lt_def, bind_s, isb_0, isb_1, iZ_add, iZ_sub, iZ_mul, iZ_neg, lZ_add, lZ_sub, lZ_mul, iZ_lt, iZ_le, iZ_eq, lZ_lt, lZ_le, lZ_eq, iZ_64, iZ_N, inb_Z, if_pos, if_neg, ↓reduceIte, Bool.true_eq_false, Bool.false_eq_true, li0, li1, li2, li3, li4, li5, li6, li9, li10, li16, li20, li23, li24, li25, li31, li33, li44, li48, li49, li50, li51, li57, li59, li60, li63, li69, li70, li71, li72, li74, li99, li100, li119, li126, li250, li296, li297, li298, li299, li300, li301, li302, li303, li606, li1515, li1818, li16384, li1048576, li2147483647, li10000, lj0, lj1, lj10000]
theorem c_putc {f : Nat → Int32} {v : Int32} {j : Int} {na : Nat} (h0 : 0 ≤ j) (h1 : j < na) (h2 : na ≤ 1000) : fX5_putCell (iZ j) v na f = some (upd f j.toNat v) := by
  have e : Int32.ofNat na = iZ (na : Int) := Int32.ofInt_eq_ofNat.symm
  unfold fX5_putCell
  rw [e]
  simp (disch := omega) only [gd_true, gd_dec, lt_def, bind_s, isb_0, isb_1, iZ_add, iZ_sub, iZ_mul, iZ_neg, lZ_add, lZ_sub, lZ_mul, iZ_lt, iZ_le, iZ_eq, lZ_lt, lZ_le, lZ_eq, iZ_64, iZ_N, inb_Z, if_pos, if_neg, ↓reduceIte, Bool.true_eq_false, Bool.false_eq_true, li0, li1, li2, li3, li4, li5, li6, li9, li10, li16, li20, li23, li24, li25, li31, li33, li44, li48, li49, li50, li51, li57, li59, li60, li63, li69, li70, li71, li72, li74, li99, li100, li119, li126, li250, li296, li297, li298, li299, li300, li301, li302, li303, li606, li1515, li1818, li16384, li1048576, li2147483647, li10000, lj0, lj1, lj10000]
theorem upd_s {f : Nat → Int32} {k : Nat} {x : Int32} : upd f k x k = x := pk_us
theorem upd_n {f : Nat → Int32} {k j : Nat} {x : Int32} (h : j ≠ k) : upd f k x j = f j := pk_un h
def okS (N : Int → Int) (F : Int32) (bd f t : Int) : Prop := ∀ j : Int, f < j → j < t → hb F j = false ∧ spD N j f t ≤ bd * bd * scD N f t
def NdOk (nd : Nat → Int32) (N : Int → Int) (F : Int32) (f t : Int) : Prop := ∃ v : Int, nd (f * 24 + t).toNat = iZ v ∧ (0 ≤ v ∧ v ≤ 51) ∧ ∀ bd : Int, 0 ≤ bd → bd ≤ 50 → (v ≤ bd ↔ okS N F bd f t)
theorem FarP.ok {N : Int → Int} {f t F M : Int} (h : FarP N f t t F M) (B : Int) (hB : 0 ≤ B) : M ≤ B ↔ ∀ j : Int, f < j → j < t → spD N j f t ≤ B := by
  constructor
  · intro q j a b
    have := h.1 j a b
    omega
  · intro q
    rcases h.2.2 with ⟨e1, e2⟩ | ⟨p1, p2, p3, p4, p5⟩
    · omega
    · have := q F p1 p2; omega
theorem sq_mono {a b : Int} (h0 : 0 ≤ a) (h : a ≤ b) : a * a ≤ b * b := Int.mul_le_mul h h h0 (by omega)
theorem c_leastW {m : Nat → Int32} {n : Int} {N : Int → Int} {s K : Int32} {p : PS} (hm : Row m n N) (hc : Crd n N) (hn : n ≤ 24) {f t : Int} (f0 : 0 ≤ f) (ft : f < t) (t1 : t < n) : ∃ v : Int, fX2_leastWithin (iZ f) (iZ t) p (m, s, K) = some (iZ v) ∧ (0 ≤ v ∧ v ≤ 51) ∧ ∀ bd : Int, 0 ≤ bd → bd ≤ 50 → (v ≤ bd ↔ ∀ j : Int, f < j → j < t → spD N j f t ≤ bd * bd * scD N f t) := by
  obtain ⟨F, L, hF, hcF⟩ := c_far (s := s) (K := K) hm hc hn f0 ft t1
  have hrg := hF.rg ft
  have hL := hF.b hc f0 (show f < n by omega) (show 0 ≤ t by omega) t1 ft (by omega)
  have hsc := scD_b hc f0 (show f < n by omega) (show 0 ≤ t by omega) t1
  have cs := c_spread (s := s) (K := K) hm hc hn (k := F) (f := f) (t := t) (by omega) (by omega) f0 (by omega) (by omega) t1
  rw [hF.sp] at cs
  have csc := c_scale (s := s) (K := K) hm hc hn f0 (show f < n by omega) (show 0 ≤ t by omega) t1
  obtain ⟨r, h1, v, rfl, hv, hv2⟩ := lp_mu (f := bX2_leastWithin_25 (lZ L) (lZ (scD N f t))) (fun st => ∃ k : Int, st = iZ k ∧ (0 ≤ k ∧ k ≤ 51) ∧ ∀ j : Int, 0 ≤ j → j < k → ¬ L ≤ j * j * scD N f t) (fun st => (51 - st.toInt).toNat) (fun r => ∃ v : Int, r = iZ v ∧ (0 ≤ v ∧ v ≤ 51) ∧ ∀ bd : Int, 0 ≤ bd → bd ≤ 50 → (v ≤ bd ↔ L ≤ bd * bd * scD N f t)) (by
    rintro st ⟨k, rfl, hk, hj⟩
    by_cases e : k = 51
    · refine Or.inr ⟨iZ k, ?_, k, rfl, hk, fun bd b0 b1 => ⟨fun q => by omega, fun q => absurd q (hj bd b0 (by omega))⟩⟩
      simp (disch := omega) only [bX2_leastWithin_25, gd_true, gd_dec, lt_def, bind_s, isb_0, isb_1, iZ_add, iZ_sub, iZ_mul, iZ_neg, lZ_add, lZ_sub, lZ_mul, iZ_lt, iZ_le, iZ_eq, lZ_lt, lZ_le, lZ_eq, iZ_64, iZ_N, inb_Z, if_pos, if_neg, ↓reduceIte, Bool.true_eq_false, Bool.false_eq_true, li0, li1, li2, li3, li4, li5, li6, li9, li10, li16, li20, li23, li24, li25, li31, li33, li44, li48, li49, li50, li51, li57, li59, li60, li63, li69, li70, li71, li72, li74, li99, li100, li119, li126, li250, li296, li297, li298, li299, li300, li301, li302, li303, li606, li1515, li1818, li16384, li1048576, li2147483647, li10000, lj0, lj1, lj10000]
    · have cw := c_within (bd := k) hk.1 hk.2 hL hsc
      by_cases q : L ≤ k * k * scD N f t
      · rw [decide_eq_true q] at cw
        refine Or.inr ⟨iZ k, ?_, k, rfl, hk, fun bd b0 b1 => ⟨fun z => ?_, fun z => ?_⟩⟩
        · simp (disch := omega) only [bX2_leastWithin_25, cw, bi_z, gd_true, gd_dec, lt_def, bind_s, isb_0, isb_1, iZ_add, iZ_sub, iZ_mul, iZ_neg, lZ_add, lZ_sub, lZ_mul, iZ_lt, iZ_le, iZ_eq, lZ_lt, lZ_le, lZ_eq, iZ_64, iZ_N, inb_Z, if_pos, if_neg, ↓reduceIte, Bool.true_eq_false, Bool.false_eq_true, li0, li1, li2, li3, li4, li5, li6, li9, li10, li16, li20, li23, li24, li25, li31, li33, li44, li48, li49, li50, li51, li57, li59, li60, li63, li69, li70, li71, li72, li74, li99, li100, li119, li126, li250, li296, li297, li298, li299, li300, li301, li302, li303, li606, li1515, li1818, li16384, li1048576, li2147483647, li10000, lj0, lj1, lj10000]
        · have := Int.mul_le_mul_of_nonneg_right (sq_mono hk.1 z) (show 0 ≤ scD N f t by omega)
          omega
        · rcases Int.lt_or_le bd k with y | y
          · exact absurd z (hj bd b0 y)
          · exact y
      · rw [decide_eq_false q] at cw
        refine Or.inl ⟨iZ (k + 1), ?_, ⟨k + 1, rfl, by omega, fun j j0 j1 => ?_⟩, ?_⟩
        · simp (disch := omega) only [bX2_leastWithin_25, cw, bi_z, gd_true, gd_dec, lt_def, bind_s, isb_0, isb_1, iZ_add, iZ_sub, iZ_mul, iZ_neg, lZ_add, lZ_sub, lZ_mul, iZ_lt, iZ_le, iZ_eq, lZ_lt, lZ_le, lZ_eq, iZ_64, iZ_N, inb_Z, if_pos, if_neg, ↓reduceIte, Bool.true_eq_false, Bool.false_eq_true, li0, li1, li2, li3, li4, li5, li6, li9, li10, li16, li20, li23, li24, li25, li31, li33, li44, li48, li49, li50, li51, li57, li59, li60, li63, li69, li70, li71, li72, li74, li99, li100, li119, li126, li250, li296, li297, li298, li299, li300, li301, li302, li303, li606, li1515, li1818, li16384, li1048576, li2147483647, li10000, lj0, lj1, lj10000]
        · by_cases e2 : j = k
          · rw [e2]; exact q
          · exact hj j j0 (by omega)
        · show (51 - (iZ (k + 1)).toInt).toNat < (51 - (iZ k).toInt).toNat
          rw [iZ_T (by omega) (by omega), iZ_T (by omega) (by omega)]
          omega) (iZ 0) ⟨0, rfl, by omega, fun j a b => by omega⟩
  refine ⟨v, ?_, hv, fun bd b0 b1 => ?_⟩
  · unfold fX2_leastWithin lX2_leastWithin_25
    rw [hcF, bind_s, cs, bind_s, csc, bind_s]
    have e : lp (bX2_leastWithin_25 (lZ L) (lZ (scD N f t))) 0 = some (iZ v) := h1
    rw [e]
    rfl
  · rw [hv2 bd b0 b1]
    exact hF.ok _ (Int.mul_nonneg (sq_nn bd) (by omega))
theorem c_measIn {m : Nat → Int32} {n : Int} {N : Int → Int} {K F : Int32} (hm : Row m n N) (hc : Crd n N) (hn : n ≤ 24) {t : Int} (t0 : 0 < t) (t1 : t < n) (cs : (Nat → Int32) × (Nat → Int32)) {nd : Nat → Int32} (hnd : ∀ f' t' : Int, 0 ≤ f' → f' < t' → t' < t → NdOk nd N F f' t') : ∃ nd' : Nat → Int32, lp (bX2_measure_18 F (iZ t) (m, iZ n, K)) (iZ 0, iZ (t - 1), (nd, cs)) = some (nd', cs) ∧ ∀ f' t' : Int, 0 ≤ f' → f' < t' → t' < t + 1 → NdOk nd' N F f' t' := by
  obtain ⟨r, h1, nd', rfl, h2⟩ := lp_dn (f := bX2_measure_18 F (iZ t) (m, iZ n, K)) (fun k st => ∃ (b : Bool) (nd : Nat → Int32), st = (iZ (bi b), iZ k, (nd, cs)) ∧ (b = true ↔ ∃ j : Int, k < j ∧ j < t ∧ hb F j = true) ∧ ∀ f' t' : Int, 0 ≤ f' → f' < t' → (t' < t ∨ t' = t ∧ k < f') → NdOk nd N F f' t') (fun r => ∃ nd', r = (nd', cs) ∧ ∀ f' t' : Int, 0 ≤ f' → f' < t' → t' < t + 1 → NdOk nd' N F f' t') (i := t - 1) (n := -1) (by omega) (by
    rintro k st k0 k1 ⟨b, nd, rfl, hb1, hnd⟩
    have h24 : (0 : Int) ≤ k * 24 + t ∧ k * 24 + t < 576 := by omega
    obtain ⟨v, hlw, hv, hv2⟩ := c_leastW (s := iZ n) (K := K) (p := (nd, cs)) hm hc hn (f := k) (t := t) (by omega) (by omega) t1
    have other : ∀ x : Int32, ∀ f' t' : Int, 0 ≤ f' → f' < t' → (t' < t ∨ t' = t ∧ k < f') → NdOk (upd nd (k * 24 + t).toNat x) N F f' t' := by
      intro x f' t' a0 a1 a2
      obtain ⟨w, w1, w2⟩ := hnd f' t' a0 a1 a2
      refine ⟨w, ?_, w2⟩
      rw [upd_n (by omega)]
      exact w1
    have ch := c_has F (k := k) (by omega) (by omega)
    have cp := fun x => c_putc (f := nd) (v := x) (j := k * 24 + t) (na := 576) h24.1 h24.2 (by decide)
    cases b with
    | true =>
      refine ⟨(iZ (bi true), iZ (k - 1), (upd nd (k * 24 + t).toNat (iZ 51), cs)), ?_, true, _, rfl, ?_, ?_⟩
      · simp (disch := omega) only [bX2_measure_18, bi_z, cp, P_needs, P_s_needs, ← Int.sub_eq_add_neg, gd_true, gd_dec, lt_def, bind_s, isb_0, isb_1, iZ_add, iZ_sub, iZ_mul, iZ_neg, lZ_add, lZ_sub, lZ_mul, iZ_lt, iZ_le, iZ_eq, lZ_lt, lZ_le, lZ_eq, iZ_64, iZ_N, inb_Z, if_pos, if_neg, ↓reduceIte, Bool.true_eq_false, Bool.false_eq_true, li0, li1, li2, li3, li4, li5, li6, li9, li10, li16, li20, li23, li24, li25, li31, li33, li44, li48, li49, li50, li51, li57, li59, li60, li63, li69, li70, li71, li72, li74, li99, li100, li119, li126, li250, li296, li297, li298, li299, li300, li301, li302, li303, li606, li1515, li1818, li16384, li1048576, li2147483647, li10000, lj0, lj1, lj10000]
        rfl
      · obtain ⟨j, j0, j1, j2⟩ := hb1.mp rfl
        exact ⟨fun _ => ⟨j, by omega, j1, j2⟩, fun _ => rfl⟩
      · intro f' t' a0 a1 a2
        by_cases e : t' = t ∧ f' = k
        · obtain ⟨rfl, rfl⟩ := e
          refine ⟨51, upd_s, by omega, fun bd b0 b1 => ⟨fun q => by omega, fun q => ?_⟩⟩
          obtain ⟨j, j0, j1, j2⟩ := hb1.mp rfl
          have := (q j j0 j1).1
          rw [j2] at this
          cases this
        · exact other _ f' t' a0 a1 (by omega)
    | false =>
      have hno : ∀ j : Int, k < j → j < t → hb F j = false := by
        intro j j0 j1
        cases hj : hb F j with
        | false => rfl
        | true => exact absurd (hb1.mpr ⟨j, j0, j1, hj⟩) (by decide)
      refine ⟨(iZ (bi (hb F k)), iZ (k - 1), (upd nd (k * 24 + t).toNat (iZ v), cs)), ?_, hb F k, _, rfl, ?_, ?_⟩
      · simp (disch := omega) only [bX2_measure_18, bi_z, cp, ch, hlw, P_needs, P_s_needs, ← Int.sub_eq_add_neg, gd_true, gd_dec, lt_def, bind_s, isb_0, isb_1, iZ_add, iZ_sub, iZ_mul, iZ_neg, lZ_add, lZ_sub, lZ_mul, iZ_lt, iZ_le, iZ_eq, lZ_lt, lZ_le, lZ_eq, iZ_64, iZ_N, inb_Z, if_pos, if_neg, ↓reduceIte, Bool.true_eq_false, Bool.false_eq_true, li0, li1, li2, li3, li4, li5, li6, li9, li10, li16, li20, li23, li24, li25, li31, li33, li44, li48, li49, li50, li51, li57, li59, li60, li63, li69, li70, li71, li72, li74, li99, li100, li119, li126, li250, li296, li297, li298, li299, li300, li301, li302, li303, li606, li1515, li1818, li16384, li1048576, li2147483647, li10000, lj0, lj1, lj10000]
        cases hb F k <;> rfl
      · constructor
        · intro h
          exact ⟨k, by omega, by omega, h⟩
        · rintro ⟨j, j0, j1, j2⟩
          by_cases e : j = k
          · rw [← e]; exact j2
          · have := hno j (by omega) j1
            rw [this] at j2
            cases j2
      · intro f' t' a0 a1 a2
        by_cases e : t' = t ∧ f' = k
        · obtain ⟨rfl, rfl⟩ := e
          refine ⟨v, upd_s, hv, fun bd b0 b1 => ?_⟩
          rw [hv2 bd b0 b1]
          exact ⟨fun q j j0 j1 => ⟨hno j j0 j1, q j j0 j1⟩, fun q j j0 j1 => (q j j0 j1).2⟩
        · exact other _ f' t' a0 a1 (by omega)) (by
    rintro st ⟨b, nd, rfl, hb1, hnd⟩
    refine ⟨(nd, cs), ?_, nd, rfl, fun f' t' a0 a1 a2 => hnd f' t' a0 a1 (by omega)⟩
    simp (disch := omega) only [bX2_measure_18, gd_true, gd_dec, lt_def, bind_s, isb_0, isb_1, iZ_add, iZ_sub, iZ_mul, iZ_neg, lZ_add, lZ_sub, lZ_mul, iZ_lt, iZ_le, iZ_eq, lZ_lt, lZ_le, lZ_eq, iZ_64, iZ_N, inb_Z, if_pos, if_neg, ↓reduceIte, Bool.true_eq_false, Bool.false_eq_true, li0, li1, li2, li3, li4, li5, li6, li9, li10, li16, li20, li23, li24, li25, li31, li33, li44, li48, li49, li50, li51, li57, li59, li60, li63, li69, li70, li71, li72, li74, li99, li100, li119, li126, li250, li296, li297, li298, li299, li300, li301, li302, li303, li606, li1515, li1818, li16384, li1048576, li2147483647, li10000, lj0, lj1, lj10000]) (s := (iZ 0, iZ (t - 1), (nd, cs))) ⟨false, nd, rfl, ⟨fun h => (by cases h), fun ⟨j, j0, j1, _⟩ => (by omega)⟩, fun f' t' a0 a1 a2 => hnd f' t' a0 a1 (by omega)⟩
  exact ⟨nd', h1, h2⟩
theorem c_measure {m : Nat → Int32} {n : Int} {N : Int → Int} {K F : Int32} (hm : Row m n N) (hc : Crd n N) (hn : 2 ≤ n ∧ n ≤ 24) (p : PS) : ∃ nd : Nat → Int32, fX2_measure F p (m, iZ n, K) = some (nd, p.2) ∧ ∀ f t : Int, 0 ≤ f → f < t → t < n → NdOk nd N F f t := by
  obtain ⟨r, h1, nd, rfl, h2⟩ := lp_up (f := bX2_measure_2 F (m, iZ n, K)) (fun t st => ∃ nd : Nat → Int32, st = (iZ t, (nd, p.2)) ∧ ∀ f' t' : Int, 0 ≤ f' → f' < t' → t' < t → NdOk nd N F f' t') (fun r => ∃ nd, r = (nd, p.2) ∧ ∀ f t : Int, 0 ≤ f → f < t → t < n → NdOk nd N F f t) (i := 1) (n := n) (by omega) (by
    rintro t st t0 t1 ⟨nd, rfl, hnd⟩
    obtain ⟨nd', hl, hd⟩ := c_measIn (K := K) (F := F) hm hc hn.2 (t := t) (by omega) t1 p.2 hnd
    refine ⟨(iZ (t + 1), (nd', p.2)), ?_, nd', rfl, hd⟩
    simp (disch := omega) only [bX2_measure_2, fX3_size, S_size, lX2_measure_18, hl, gd_true, gd_dec, lt_def, bind_s, isb_0, isb_1, iZ_add, iZ_sub, iZ_mul, iZ_neg, lZ_add, lZ_sub, lZ_mul, iZ_lt, iZ_le, iZ_eq, lZ_lt, lZ_le, lZ_eq, iZ_64, iZ_N, inb_Z, if_pos, if_neg, ↓reduceIte, Bool.true_eq_false, Bool.false_eq_true, li0, li1, li2, li3, li4, li5, li6, li9, li10, li16, li20, li23, li24, li25, li31, li33, li44, li48, li49, li50, li51, li57, li59, li60, li63, li69, li70, li71, li72, li74, li99, li100, li119, li126, li250, li296, li297, li298, li299, li300, li301, li302, li303, li606, li1515, li1818, li16384, li1048576, li2147483647, li10000, lj0, lj1, lj10000]) (by
    rintro st ⟨nd, rfl, hnd⟩
    refine ⟨(nd, p.2), ?_, nd, rfl, hnd⟩
    simp (disch := omega) only [bX2_measure_2, fX3_size, S_size, gd_true, gd_dec, lt_def, bind_s, isb_0, isb_1, iZ_add, iZ_sub, iZ_mul, iZ_neg, lZ_add, lZ_sub, lZ_mul, iZ_lt, iZ_le, iZ_eq, lZ_lt, lZ_le, lZ_eq, iZ_64, iZ_N, inb_Z, if_pos, if_neg, ↓reduceIte, Bool.true_eq_false, Bool.false_eq_true, li0, li1, li2, li3, li4, li5, li6, li9, li10, li16, li20, li23, li24, li25, li31, li33, li44, li48, li49, li50, li51, li57, li59, li60, li63, li69, li70, li71, li72, li74, li99, li100, li119, li126, li250, li296, li297, li298, li299, li300, li301, li302, li303, li606, li1515, li1818, li16384, li1048576, li2147483647, li10000, lj0, lj1, lj10000]) (s := (iZ 1, p)) ⟨p.1, rfl, fun f' t' a b c => by omega⟩
  refine ⟨nd, ?_, h2⟩
  unfold fX2_measure lX2_measure_2
  have e : lp (bX2_measure_2 F (m, iZ n, K)) (1, p) = some (nd, p.2) := h1
  rw [e]
  rfl
def IsBst (C : Int → Int) (ok : Int → Prop) (k b : Int) : Prop := (0 ≤ b ∧ b < k) ∧ ok b ∧ (∀ j : Int, 0 ≤ j → j < k → ok j → C b ≤ C j) ∧ ∀ j : Int, 0 ≤ j → j < b → ok j → C b < C j
theorem IsBst.uniq {C : Int → Int} {ok : Int → Prop} {k b c : Int} (h : IsBst C ok k b) (h2 : IsBst C ok k c) : b = c := by
  obtain ⟨⟨a0, a1⟩, a2, a3, a4⟩ := h
  obtain ⟨⟨b0, b1⟩, b2, b3, b4⟩ := h2
  have e1 := a3 c b0 b1 b2
  have e2 := b3 b a0 a1 a2
  rcases Int.lt_trichotomy b c with q | q | q
  · have := b4 b a0 q a2; omega
  · exact q
  · have := a4 c b0 q b2; omega
theorem IsBst.cg {C C' : Int → Int} {ok : Int → Prop} {k b : Int} (h : IsBst C ok k b) (e : ∀ j : Int, 0 ≤ j → j < k → C' j = C j) : IsBst C' ok k b := by
  obtain ⟨⟨a0, a1⟩, a2, a3, a4⟩ := h
  refine ⟨⟨a0, a1⟩, a2, fun j j0 j1 q => ?_, fun j j0 j1 q => ?_⟩
  · rw [e b a0 a1, e j j0 j1]; exact a3 j j0 j1 q
  · rw [e b a0 a1, e j j0 (by omega)]; exact a4 j j0 j1 q
def bitZ (t : Int) : Int32 := iZ 1 <<< (iZ t &&& iZ 31)
def Tab (N : Int → Int) (F : Int32) (bd to : Int) (C : Int → Int) (S : Int → Int32) : Prop := C 0 = 1 ∧ S 0 = iZ 1 ∧ ∀ t : Int, 0 < t → t < to → ∃ b : Int, IsBst C (fun j => okS N F bd j t) t b ∧ C t = C b + 1 ∧ S t = S b ||| bitZ t
theorem Tab.b {N : Int → Int} {F : Int32} {bd to : Int} {C : Int → Int} {S : Int → Int32} (T : Tab N F bd to C S) (h24 : to ≤ 24) {t : Int} (t0 : 0 ≤ t) (t1 : t < to) : (1 ≤ C t ∧ C t ≤ t + 1) ∧ hb (S t) 0 = true ∧ hb (S t) t = true ∧ ∀ j : Int, t < j → hb (S t) j = false := by
  obtain ⟨g, hg⟩ : ∃ g : Nat, t < g := ⟨(t + 1).toNat, by omega⟩
  induction g generalizing t with
  | zero => omega
  | succ g ih =>
    by_cases e : t = 0
    · subst e
      have h1 : ∀ j : Int, 0 ≤ j → hb (iZ 1) j = decide (j = 0) := by
        intro j j0
        have := hb_or (K := 0) (k := 0) (by decide) (by decide) j0
        rw [hb_0, Bool.false_or] at this
        rw [← this]
        have e : (0 : Int32) ||| (iZ 1 <<< (iZ 0 &&& iZ 31)) = iZ 1 := by decide
        rw [e]
      rw [T.1, T.2.1, h1 0 (by decide)]
      refine ⟨by omega, rfl, rfl, fun j j0 => ?_⟩
      rw [h1 j (by omega)]
      exact decide_eq_false (by omega)
    · obtain ⟨b, hB, hC, hS⟩ := T.2.2 t (by omega) t1
      have hb1 := hB.1
      obtain ⟨i1, i2, i3, i4⟩ := ih (t := b) (by omega) (by omega) (by omega)
      have hor : ∀ j : Int, 0 ≤ j → hb (S t) j = (hb (S b) j || decide (j = t)) := fun j j0 => by rw [hS]; exact hb_or t0 (by omega) j0
      refine ⟨by omega, ?_, ?_, fun j j0 => ?_⟩
      · rw [hor 0 (by decide), i2]; rfl
      · rw [hor t t0, decide_eq_true rfl, Bool.or_true]
      · rw [hor j (by omega), i4 j (by omega), decide_eq_false (by omega)]; rfl
theorem Tab.MK {N : Int → Int} {F : Int32} {bd n : Int} {C : Int → Int} {S : Int → Int32} (T : Tab N F bd n C S) (hn : 2 ≤ n ∧ n ≤ 24) : MK n (S (n - 1)) := by
  obtain ⟨-, h1, h2, h3⟩ := T.b hn.2 (t := n - 1) (by omega) (by omega)
  refine ⟨hn, h1, h2, fun j j0 q => ?_⟩
  rcases Int.lt_or_le j n with z | z
  · exact z
  · rw [h3 j (by omega)] at q
    cases q
theorem Tab.ext {N : Int → Int} {F : Int32} {bd to : Int} {C : Int → Int} {S : Int → Int32} (T : Tab N F bd to C S) (h0 : 0 < to) {b : Int} (hB : IsBst C (fun j => okS N F bd j to) to b) : Tab N F bd (to + 1) (fun j => if j = to then C b + 1 else C j) (fun j => if j = to then S b ||| bitZ to else S j) := by
  refine ⟨?_, ?_, fun t t0 t1 => ?_⟩
  · show (if (0 : Int) = to then _ else _) = _
    rw [if_neg (by omega)]; exact T.1
  · show (if (0 : Int) = to then _ else _) = _
    rw [if_neg (by omega)]; exact T.2.1
  · by_cases e : t = to
    · subst e
      have := hB.1
      refine ⟨b, hB.cg (fun j j0 j1 => if_neg (by omega)), ?_, ?_⟩
      · show (if t = t then _ else _) = (if b = t then _ else _) + 1
        rw [if_pos rfl, if_neg (by omega)]
      · show (if t = t then _ else _) = (if b = t then _ else _) ||| _
        rw [if_pos rfl, if_neg (by omega)]
    · obtain ⟨c, hC, h1, h2⟩ := T.2.2 t t0 (by omega)
      have := hC.1
      refine ⟨c, hC.cg (fun j j0 j1 => if_neg (by omega)), ?_, ?_⟩
      · show (if t = to then _ else _) = (if c = to then _ else _) + 1
        rw [if_neg e, if_neg (by omega)]; exact h1
      · show (if t = to then _ else _) = (if c = to then _ else _) ||| _
        rw [if_neg e, if_neg (by omega)]; exact h2
theorem okS_last (N : Int → Int) (F : Int32) (bd t : Int) : okS N F bd (t - 1) t := fun j a b => by omega
theorem c_fewIn {n : Int} {N : Int → Int} {F : Int32} {bd : Int} {nd cn mk : Nat → Int32} (hn : n ≤ 24) (d0 : 0 ≤ bd) (d1 : bd ≤ 50) (hnd : ∀ f t : Int, 0 ≤ f → f < t → t < n → NdOk nd N F f t) {C : Int → Int} {to : Int} (t0 : 0 < to) (t1 : to < n) (hCb : ∀ j : Int, 0 ≤ j → j < to → 1 ≤ C j ∧ C j ≤ 24) (hcn : ∀ j : Int, 0 ≤ j → j < to → cn j.toNat = iZ (C j)) : ∃ b : Int, IsBst C (fun j => okS N F bd j to) to b ∧ lX2_fewest_37 (iZ bd) (iZ to) (nd, cn, mk) (iZ (to - 1)) (iZ 25) (iZ 0) = some (iZ b) := by
  obtain ⟨r, h1, b, rfl, h2⟩ := lp_up (f := bX2_fewest_37 (iZ bd) (iZ to) (nd, cn, mk)) (fun k st => ∃ be fw : Int, st = (iZ be, iZ fw, iZ k) ∧ (fw = 25 ∧ be = to - 1 ∧ (∀ j : Int, 0 ≤ j → j < k → ¬ okS N F bd j to) ∨ fw = C be ∧ IsBst C (fun j => okS N F bd j to) k be)) (fun r => ∃ b : Int, r = iZ b ∧ IsBst C (fun j => okS N F bd j to) to b) (i := 0) (n := to) (by omega) (by
    rintro k st k0 k1 ⟨be, fw, rfl, hI⟩
    obtain ⟨v, hv, hv1, hv2⟩ := hnd k to k0 k1 t1
    have hv2 := hv2 bd d0 d1
    have cc := c_cell (f := nd) (j := k * 24 + to) (na := 576) (by omega) (by omega) (by decide)
    rw [hv] at cc
    have cd := c_cell (f := cn) (j := k) (na := 24) (by omega) (by omega) (by decide)
    rw [hcn k k0 k1] at cd
    have hCk := hCb k k0 k1
    have hfw : 1 ≤ fw ∧ fw ≤ 25 := by
      rcases hI with ⟨e, -⟩ | ⟨e, hB⟩
      · omega
      · have := hCb be hB.1.1 (by have := hB.1.2; omega)
        omega
    by_cases q : v ≤ bd
    · have hok := hv2.mp q
      by_cases z : fw ≤ C k
      · refine ⟨(iZ be, iZ fw, iZ (k + 1)), ?_, be, fw, rfl, ?_⟩
        · simp (disch := omega) only [bX2_fewest_37, P_needs, P_counts, cc, cd, gd_true, gd_dec, lt_def, bind_s, isb_0, isb_1, iZ_add, iZ_sub, iZ_mul, iZ_neg, lZ_add, lZ_sub, lZ_mul, iZ_lt, iZ_le, iZ_eq, lZ_lt, lZ_le, lZ_eq, iZ_64, iZ_N, inb_Z, if_pos, if_neg, ↓reduceIte, Bool.true_eq_false, Bool.false_eq_true, li0, li1, li2, li3, li4, li5, li6, li9, li10, li16, li20, li23, li24, li25, li31, li33, li44, li48, li49, li50, li51, li57, li59, li60, li63, li69, li70, li71, li72, li74, li99, li100, li119, li126, li250, li296, li297, li298, li299, li300, li301, li302, li303, li606, li1515, li1818, li16384, li1048576, li2147483647, li10000, lj0, lj1, lj10000]
        · rcases hI with ⟨e, -⟩ | ⟨e, hB⟩
          · omega
          · refine Or.inr ⟨e, ⟨hB.1.1, by have := hB.1.2; omega⟩, hB.2.1, fun j j0 j1 y => ?_, hB.2.2.2⟩
            by_cases e2 : j = k
            · rw [e2]; omega
            · exact hB.2.2.1 j j0 (by omega) y
      · refine ⟨(iZ k, iZ (C k), iZ (k + 1)), ?_, k, C k, rfl, Or.inr ⟨rfl, ⟨k0, by omega⟩, hok, ?_, ?_⟩⟩
        · simp (disch := omega) only [bX2_fewest_37, P_needs, P_counts, cc, cd, gd_true, gd_dec, lt_def, bind_s, isb_0, isb_1, iZ_add, iZ_sub, iZ_mul, iZ_neg, lZ_add, lZ_sub, lZ_mul, iZ_lt, iZ_le, iZ_eq, lZ_lt, lZ_le, lZ_eq, iZ_64, iZ_N, inb_Z, if_pos, if_neg, ↓reduceIte, Bool.true_eq_false, Bool.false_eq_true, li0, li1, li2, li3, li4, li5, li6, li9, li10, li16, li20, li23, li24, li25, li31, li33, li44, li48, li49, li50, li51, li57, li59, li60, li63, li69, li70, li71, li72, li74, li99, li100, li119, li126, li250, li296, li297, li298, li299, li300, li301, li302, li303, li606, li1515, li1818, li16384, li1048576, li2147483647, li10000, lj0, lj1, lj10000]
        · intro j j0 j1 y
          by_cases e2 : j = k
          · rw [e2]; exact Int.le_refl _
          · rcases hI with ⟨e, -, hno⟩ | ⟨e, hB⟩
            · exact absurd y (hno j j0 (by omega))
            · have := hB.2.2.1 j j0 (by omega) y; omega
        · intro j j0 j1 y
          rcases hI with ⟨e, -, hno⟩ | ⟨e, hB⟩
          · exact absurd y (hno j j0 (by omega))
          · have := hB.2.2.1 j j0 (by omega) y; omega
    · have hok : ¬ okS N F bd k to := fun z => q (hv2.mpr z)
      refine ⟨(iZ be, iZ fw, iZ (k + 1)), ?_, be, fw, rfl, ?_⟩
      · simp (disch := omega) only [bX2_fewest_37, P_needs, P_counts, cc, gd_true, gd_dec, lt_def, bind_s, isb_0, isb_1, iZ_add, iZ_sub, iZ_mul, iZ_neg, lZ_add, lZ_sub, lZ_mul, iZ_lt, iZ_le, iZ_eq, lZ_lt, lZ_le, lZ_eq, iZ_64, iZ_N, inb_Z, if_pos, if_neg, ↓reduceIte, Bool.true_eq_false, Bool.false_eq_true, li0, li1, li2, li3, li4, li5, li6, li9, li10, li16, li20, li23, li24, li25, li31, li33, li44, li48, li49, li50, li51, li57, li59, li60, li63, li69, li70, li71, li72, li74, li99, li100, li119, li126, li250, li296, li297, li298, li299, li300, li301, li302, li303, li606, li1515, li1818, li16384, li1048576, li2147483647, li10000, lj0, lj1, lj10000]
      · rcases hI with ⟨e, e3, hno⟩ | ⟨e, hB⟩
        · refine Or.inl ⟨e, e3, fun j j0 j1 => ?_⟩
          by_cases e2 : j = k
          · rw [e2]; exact hok
          · exact hno j j0 (by omega)
        · refine Or.inr ⟨e, ⟨hB.1.1, by have := hB.1.2; omega⟩, hB.2.1, fun j j0 j1 y => ?_, hB.2.2.2⟩
          by_cases e2 : j = k
          · rw [e2] at y; exact absurd y hok
          · exact hB.2.2.1 j j0 (by omega) y) (by
    rintro st ⟨be, fw, rfl, hI⟩
    refine ⟨iZ be, ?_, be, rfl, ?_⟩
    · simp (disch := omega) only [bX2_fewest_37, gd_true, gd_dec, lt_def, bind_s, isb_0, isb_1, iZ_add, iZ_sub, iZ_mul, iZ_neg, lZ_add, lZ_sub, lZ_mul, iZ_lt, iZ_le, iZ_eq, lZ_lt, lZ_le, lZ_eq, iZ_64, iZ_N, inb_Z, if_pos, if_neg, ↓reduceIte, Bool.true_eq_false, Bool.false_eq_true, li0, li1, li2, li3, li4, li5, li6, li9, li10, li16, li20, li23, li24, li25, li31, li33, li44, li48, li49, li50, li51, li57, li59, li60, li63, li69, li70, li71, li72, li74, li99, li100, li119, li126, li250, li296, li297, li298, li299, li300, li301, li302, li303, li606, li1515, li1818, li16384, li1048576, li2147483647, li10000, lj0, lj1, lj10000]
    · rcases hI with ⟨e, e3, hno⟩ | ⟨e, hB⟩
      · exact absurd (okS_last N F bd to) (hno (to - 1) (by omega) (by omega))
      · exact hB) (s := (iZ (to - 1), iZ 25, iZ 0)) ⟨to - 1, 25, rfl, Or.inl ⟨rfl, rfl, fun j a b => by omega⟩⟩
  exact ⟨b, h2, h1⟩
theorem c_fewest {n : Int} {N : Int → Int} {F : Int32} {bd : Int} {nd : Nat → Int32} (cs : (Nat → Int32) × (Nat → Int32)) (hn : 2 ≤ n ∧ n ≤ 24) (d0 : 0 ≤ bd) (d1 : bd ≤ 50) (hnd : ∀ f t : Int, 0 ≤ f → f < t → t < n → NdOk nd N F f t) : ∃ (C : Int → Int) (S : Int → Int32) (cs' : (Nat → Int32) × (Nat → Int32)), Tab N F bd n C S ∧ fX2_fewest (iZ n) (iZ bd) (nd, cs) = some (S (n - 1), (nd, cs')) := by
  obtain ⟨r, h1, C, S, cn, mk, rfl, hT, hR⟩ := lp_up (f := bX2_fewest_20 (iZ n) (iZ bd)) (fun t st => ∃ (C : Int → Int) (S : Int → Int32) (cn mk : Nat → Int32), st = (iZ t, (nd, cn, mk)) ∧ Tab N F bd t C S ∧ ∀ j : Int, 0 ≤ j → j < t → cn j.toNat = iZ (C j) ∧ mk j.toNat = S j) (fun r => ∃ (C : Int → Int) (S : Int → Int32) (cn mk : Nat → Int32), r = (nd, cn, mk) ∧ Tab N F bd n C S ∧ ∀ j : Int, 0 ≤ j → j < n → cn j.toNat = iZ (C j) ∧ mk j.toNat = S j) (i := 1) (n := n) (by omega) (by
    rintro t st t0 t1 ⟨C, S, cn, mk, rfl, hT, hR⟩
    have hCb : ∀ j : Int, 0 ≤ j → j < t → 1 ≤ C j ∧ C j ≤ 24 := fun j j0 j1 => by have := (hT.b (by omega) j0 j1).1; omega
    obtain ⟨b, hB, hl⟩ := c_fewIn (mk := mk) hn.2 d0 d1 hnd (C := C) (to := t) (by omega) t1 hCb (fun j j0 j1 => (hR j j0 j1).1)
    have hb1 := hB.1
    have c1 := c_cell (f := cn) (j := b) (na := 24) (by omega) (by omega) (by decide)
    rw [(hR b hb1.1 hb1.2).1] at c1
    have c2 := c_putc (f := cn) (v := iZ (C b + 1)) (j := t) (na := 24) (by omega) (by omega) (by decide)
    have c3 := c_cell (f := mk) (j := b) (na := 24) (by omega) (by omega) (by decide)
    rw [(hR b hb1.1 hb1.2).2] at c3
    have c4 := c_putc (f := mk) (v := S b ||| (iZ 1 <<< (iZ t &&& iZ 31))) (j := t) (na := 24) (by omega) (by omega) (by decide)
    refine ⟨(iZ (t + 1), (nd, upd cn t.toNat (iZ (C b + 1)), upd mk t.toNat (S b ||| bitZ t))), ?_, _, _, _, _, rfl, hT.ext (by omega) hB, fun j j0 j1 => ?_⟩
    · simp (disch := omega) only [bX2_fewest_20, hl, P_counts, P_masks, P_s_counts, P_s_masks, c1, c2, c3, c4, gd_true, gd_dec, lt_def, bind_s, isb_0, isb_1, iZ_add, iZ_sub, iZ_mul, iZ_neg, lZ_add, lZ_sub, lZ_mul, iZ_lt, iZ_le, iZ_eq, lZ_lt, lZ_le, lZ_eq, iZ_64, iZ_N, inb_Z, if_pos, if_neg, ↓reduceIte, Bool.true_eq_false, Bool.false_eq_true, li0, li1, li2, li3, li4, li5, li6, li9, li10, li16, li20, li23, li24, li25, li31, li33, li44, li48, li49, li50, li51, li57, li59, li60, li63, li69, li70, li71, li72, li74, li99, li100, li119, li126, li250, li296, li297, li298, li299, li300, li301, li302, li303, li606, li1515, li1818, li16384, li1048576, li2147483647, li10000, lj0, lj1, lj10000]
      rfl
    · by_cases e : j = t
      · subst e
        show upd _ _ _ _ = iZ (if j = j then _ else _) ∧ upd _ _ _ _ = if j = j then _ else _
        rw [upd_s, upd_s, if_pos rfl, if_pos rfl]
        exact ⟨rfl, rfl⟩
      · show upd _ _ _ _ = iZ (if j = t then _ else _) ∧ upd _ _ _ _ = if j = t then _ else _
        rw [upd_n (by omega), upd_n (by omega), if_neg e, if_neg e]
        exact hR j j0 (by omega)) (by
    rintro st ⟨C, S, cn, mk, rfl, hT, hR⟩
    refine ⟨(nd, cn, mk), ?_, C, S, cn, mk, rfl, hT, hR⟩
    simp (disch := omega) only [bX2_fewest_20, gd_true, gd_dec, lt_def, bind_s, isb_0, isb_1, iZ_add, iZ_sub, iZ_mul, iZ_neg, lZ_add, lZ_sub, lZ_mul, iZ_lt, iZ_le, iZ_eq, lZ_lt, lZ_le, lZ_eq, iZ_64, iZ_N, inb_Z, if_pos, if_neg, ↓reduceIte, Bool.true_eq_false, Bool.false_eq_true, li0, li1, li2, li3, li4, li5, li6, li9, li10, li16, li20, li23, li24, li25, li31, li33, li44, li48, li49, li50, li51, li57, li59, li60, li63, li69, li70, li71, li72, li74, li99, li100, li119, li126, li250, li296, li297, li298, li299, li300, li301, li302, li303, li606, li1515, li1818, li16384, li1048576, li2147483647, li10000, lj0, lj1, lj10000]) (s := (iZ 1, (nd, upd cs.1 (0 : Int).toNat (iZ 1), upd cs.2 (0 : Int).toNat (iZ 1)))) ⟨fun _ => 1, fun _ => iZ 1, _, _, rfl, ⟨rfl, rfl, fun t a b => by omega⟩, fun j a b => by
      rw [show j = 0 by omega]
      exact ⟨upd_s, upd_s⟩⟩
  refine ⟨C, S, (cn, mk), hT, ?_⟩
  have c1 := c_putc (f := cs.1) (v := iZ 1) (j := 0) (na := 24) (by decide) (by decide) (by decide)
  have c2 := c_putc (f := cs.2) (v := iZ 1) (j := 0) (na := 24) (by decide) (by decide) (by decide)
  have c3 := c_cell (f := mk) (j := n - 1) (na := 24) (by omega) (by omega) (by decide)
  rw [(hR (n - 1) (by omega) (by omega)).2] at c3
  unfold fX2_fewest lX2_fewest_20
  simp (disch := omega) only [P_counts, P_masks, P_s_counts, P_s_masks, c1, c2, gd_true, gd_dec, lt_def, bind_s, isb_0, isb_1, iZ_add, iZ_sub, iZ_mul, iZ_neg, lZ_add, lZ_sub, lZ_mul, iZ_lt, iZ_le, iZ_eq, lZ_lt, lZ_le, lZ_eq, iZ_64, iZ_N, inb_Z, if_pos, if_neg, ↓reduceIte, Bool.true_eq_false, Bool.false_eq_true, li0, li1, li2, li3, li4, li5, li6, li9, li10, li16, li20, li23, li24, li25, li31, li33, li44, li48, li49, li50, li51, li57, li59, li60, li63, li69, li70, li71, li72, li74, li99, li100, li119, li126, li250, li296, li297, li298, li299, li300, li301, li302, li303, li606, li1515, li1818, li16384, li1048576, li2147483647, li10000, lj0, lj1, lj10000]
  rw [h1]
  simp (disch := omega) only [P_masks, c3, gd_true, gd_dec, lt_def, bind_s, isb_0, isb_1, iZ_add, iZ_sub, iZ_mul, iZ_neg, lZ_add, lZ_sub, lZ_mul, iZ_lt, iZ_le, iZ_eq, lZ_lt, lZ_le, lZ_eq, iZ_64, iZ_N, inb_Z, if_pos, if_neg, ↓reduceIte, Bool.true_eq_false, Bool.false_eq_true, li0, li1, li2, li3, li4, li5, li6, li9, li10, li16, li20, li23, li24, li25, li31, li33, li44, li48, li49, li50, li51, li57, li59, li60, li63, li69, li70, li71, li72, li74, li99, li100, li119, li126, li250, li296, li297, li298, li299, li300, li301, li302, li303, li606, li1515, li1818, li16384, li1048576, li2147483647, li10000, lj0, lj1, lj10000]
