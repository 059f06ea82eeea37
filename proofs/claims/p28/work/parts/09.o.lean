section
/-! sheets: the relation, copies, saved states -/
section O0
variable {a b : Nat → Int32} {v w : Int32}
end O0
def vlo (i : Int) : Int := if i = 2 then 1 else 0
def vhi (i : Int) : Int := if i = 0 then 50 else if i = 2 then 20 else 100
def StR (x : SS) (z : Nat → Int32) (s : Int) : Prop := ∃ (n : Int) (N : Int → Int) (K : Int32) (m : Nat → Int32), x = (m, iZ n, K) ∧ Row m n N ∧ MK n K ∧ Crd n N ∧ RM z (74 * s) n N K
def SR (u : ShS) (z : Nat → Int32) (sc : Int) : Prop := (0 ≤ sc ∧ sc ≤ 4) ∧ Sh_strokeCount u = iZ sc ∧ z (296 : Int).toNat = iZ sc ∧ (∀ s : Int, 0 ≤ s → s < sc → StR (Sh_st u s.toNat) z s) ∧ (∀ i : Int, 0 ≤ i → i < 4 → ∃ v : Int, Sh_values u i.toNat = iZ v ∧ z (297 + i).toNat = iZ v ∧ vlo i ≤ v ∧ v ≤ vhi i) ∧ Sh_simplified u = z (301 : Int).toNat ∧ Sh_dropped u = z (302 : Int).toNat
theorem StR.mv {x : SS} {z z' : Nat → Int32} {s t : Int} (h : StR x z s) (e : ∀ j : Int, 0 ≤ j → j < 74 → z' (74 * t + j).toNat = z (74 * s + j).toNat) : StR x z' t := by
  obtain ⟨n, N, K, m, h1, h2, h3, h4, h5, h6, h7⟩ := h
  refine ⟨n, N, K, m, h1, h2, h3, h4, ?_, ?_, fun j j0 j1 => ?_⟩
  · have := e 0 (by omega) (by omega)
    rw [Int.add_zero, Int.add_zero] at this
    rw [this]
    exact h5
  · rw [e 1 (by omega) (by omega)]
    exact h6
  · have h24 : n ≤ 24 := h3.1.2
    rw [show 74 * t + 2 + j = 74 * t + (2 + j) by omega, e (2 + j) (by omega) (by omega), show 74 * s + (2 + j) = 74 * s + 2 + j by omega]
    exact h7 j j0 j1
theorem SR.cg {u : ShS} {z z' : Nat → Int32} {sc : Int} (h : SR u z sc) (e : ∀ j : Int, 0 ≤ j → j < 303 → z' j.toNat = z j.toNat) : SR u z' sc := by
  obtain ⟨h1, h2, h3, h4, h5, h6, h7⟩ := h
  refine ⟨h1, h2, by rw [e _ (by omega) (by omega)]; exact h3, fun s s0 s1 => (h4 s s0 s1).mv (fun j j0 j1 => e _ (by omega) (by omega)), fun i i0 i1 => ?_, by rw [e _ (by omega) (by omega)]; exact h6, by rw [e _ (by omega) (by omega)]; exact h7⟩
  obtain ⟨v, a1, a2, a3⟩ := h5 i i0 i1
  exact ⟨v, a1, by rw [e _ (by omega) (by omega)]; exact a2, a3⟩
theorem Sh_at (u : ShS) (i j : Nat) (v : SS) : Sh_st (Sh_s_st u i v) j = if j = i then v else Sh_st u j := rfl
/-- one stroke is another -/
theorem SR.set {u : ShS} {z z' : Nat → Int32} {sc s : Int} {x : SS} (h : SR u z sc) (s0 : 0 ≤ s) (s1 : s < sc) (so : SameOut z z' s) (hx : StR x z' s) : SR (Sh_s_st u s.toNat x) z' sc := by
  obtain ⟨h1, h2, h3, h4, h5, h6, h7⟩ := h
  refine ⟨h1, h2, by rw [so _ (by omega) (by omega)]; exact h3, fun t t0 t1 => ?_, fun i i0 i1 => ?_, by rw [so _ (by omega) (by omega)]; exact h6, by rw [so _ (by omega) (by omega)]; exact h7⟩
  · rw [Sh_at]
    by_cases e : t = s
    · subst e
      rw [if_pos rfl]
      exact hx
    · rw [if_neg (by omega)]
      exact (h4 t t0 t1).mv (fun j j0 j1 => so _ (by omega) (by omega))
  · obtain ⟨v, a1, a2, a3⟩ := h5 i i0 i1
    exact ⟨v, a1, by rw [so _ (by omega) (by omega)]; exact a2, a3⟩
/-- one stroke more -/
theorem SR.push {u : ShS} {z z' : Nat → Int32} {sc : Int} {x : SS} (h : SR u z sc) (hs : sc < 4) (hz : z' (296 : Int).toNat = iZ (sc + 1)) (so : ∀ j : Int, 0 ≤ j → j ≠ 296 → (j < 74 * sc ∨ 74 * sc + 74 ≤ j) → z' j.toNat = z j.toNat) (hx : StR x z' sc) : SR (Sh_s_strokeCount (Sh_s_st u sc.toNat x) (iZ (sc + 1))) z' (sc + 1) := by
  obtain ⟨h1, h2, h3, h4, h5, h6, h7⟩ := h
  refine ⟨by omega, rfl, hz, fun t t0 t1 => ?_, fun i i0 i1 => ?_, by rw [so _ (by omega) (by omega) (by omega)]; exact h6, by rw [so _ (by omega) (by omega) (by omega)]; exact h7⟩
  · show StR (Sh_st (Sh_s_st u sc.toNat x) t.toNat) z' t
    rw [Sh_at]
    by_cases e : t = sc
    · subst e
      rw [if_pos rfl]
      exact hx
    · rw [if_neg (by omega)]
      exact (h4 t t0 (by omega)).mv (fun j j0 j1 => so _ (by omega) (by omega) (by omega))
  · obtain ⟨v, a1, a2, a3⟩ := h5 i i0 i1
    exact ⟨v, a1, by rw [so _ (by omega) (by omega) (by omega)]; exact a2, a3⟩
theorem SR.val {u : ShS} {z : Nat → Int32} {sc i : Int} (h : SR u z sc) (i0 : 0 ≤ i) (i1 : i < 4) : ∃ v : Int, fX1_value (iZ i) u = some (iZ v) ∧ z (297 + i).toNat = iZ v ∧ vlo i ≤ v ∧ v ≤ vhi i := by
  obtain ⟨v, a1, a2, a3⟩ := h.2.2.2.2.1 i i0 i1
  refine ⟨v, ?_, a2, a3⟩
  have := c_cell (f := Sh_values u) (j := i) (na := 4) i0 i1 (by omega)
  unfold fX1_value
  simp (disch := omega) only [this, a1, gd_true, gd_dec, lt_def, bind_s, isb_0, isb_1, iZ_add, iZ_sub, iZ_mul, iZ_neg, lZ_add, lZ_sub, lZ_mul, iZ_lt, iZ_le, iZ_eq, lZ_lt, lZ_le, lZ_eq, iZ_64, iZ_N, inb_Z, if_pos, if_neg, ↓reduceIte, Bool.true_eq_false, Bool.false_eq_true, li0, li1, li2, li3, li4, li5, li6, li9, li10, li16, li20, li23, li24, li25, li31, li33, li44, li48, li49, li50, li51, li57, li59, li60, li63, li69, li70, li71, li72, li74, li99, li100, li119, li126, li250, li296, li297, li298, li299, li300, li301, li302, li303, li606, li1515, li1818, li16384, li1048576, li2147483647, li10000, lj0, lj1, lj10000]
theorem c_at {u : ShS} {k : Int} (k0 : 0 ≤ k) (k1 : k < 4) : fX1_strokeAt (iZ k) u = some k.toNat := by
  unfold fX1_strokeAt
  simp (disch := omega) only [gd_true, gd_dec, lt_def, bind_s, isb_0, isb_1, iZ_add, iZ_sub, iZ_mul, iZ_neg, lZ_add, lZ_sub, lZ_mul, iZ_lt, iZ_le, iZ_eq, lZ_lt, lZ_le, lZ_eq, iZ_64, iZ_N, inb_Z, if_pos, if_neg, ↓reduceIte, Bool.true_eq_false, Bool.false_eq_true, li0, li1, li2, li3, li4, li5, li6, li9, li10, li16, li20, li23, li24, li25, li31, li33, li44, li48, li49, li50, li51, li57, li59, li60, li63, li69, li70, li71, li72, li74, li99, li100, li119, li126, li250, li296, li297, li298, li299, li300, li301, li302, li303, li606, li1515, li1818, li16384, li1048576, li2147483647, li10000, lj0, lj1, lj10000]
theorem c_row72 (f g : Nat → Int32) : fX5_copyRow 72 72 f g = some (va_cpy f g 0 0 72) := by
  have e : (if (Int32.ofNat 72) < (Int32.ofNat 72) then (Int32.ofNat 72) else (Int32.ofNat 72)).toNatClampNeg = 72 := by decide
  have e2 : ¬ (if (Int32.ofNat 72) < (Int32.ofNat 72) then (Int32.ofNat 72) else (Int32.ofNat 72)) < 0 := by decide
  unfold fX5_copyRow
  rw [e, gd_dec _ ⟨e2, Nat.le_refl _, Nat.le_refl _⟩]
  rfl
theorem c_row4 (f g : Nat → Int32) : fX5_copyRow 4 4 f g = some (va_cpy f g 0 0 4) := by
  have e : (if (Int32.ofNat 4) < (Int32.ofNat 4) then (Int32.ofNat 4) else (Int32.ofNat 4)).toNatClampNeg = 4 := by decide
  have e2 : ¬ (if (Int32.ofNat 4) < (Int32.ofNat 4) then (Int32.ofNat 4) else (Int32.ofNat 4)) < 0 := by decide
  unfold fX5_copyRow
  rw [e, gd_dec _ ⟨e2, Nat.le_refl _, Nat.le_refl _⟩]
  rfl
theorem cpy_at (f g : Nat → Int32) {n k : Nat} (h : k < n) : va_cpy f g 0 0 n k = f k := by
  rw [pk_cpy_in (Nat.zero_le _) (by omega)]
  congr 1
  omega
theorem c_copySt (t : SS) {m : Nat → Int32} {n : Int} {N : Int → Int} {K : Int32} (hm : Row m n N) (hn : n ≤ 24) : ∃ m' : Nat → Int32, fX3_copyFrom t (m, iZ n, K) = some (m', iZ n, K) ∧ Row m' n N := by
  refine ⟨va_cpy m t.1 0 0 72, ?_, fun j j0 j1 => ?_⟩
  · show ((fX5_copyRow 72 72 m t.1).bind fun u1 => _) = _
    rw [c_row72]
    rfl
  · rw [cpy_at _ _ (by omega)]
    exact hm j j0 j1
theorem c_copyR (t : SS) {x : SS} {z : Nat → Int32} {s : Int} (h : StR x z s) : ∃ x' : SS, fX3_copyFrom t x = some x' ∧ StR x' z s := by
  obtain ⟨n, N, K, m, rfl, h2, h3, h4, h5⟩ := h
  obtain ⟨m', a1, a2⟩ := c_copySt t (K := K) h2 h3.1.2
  exact ⟨_, a1, n, N, K, m', rfl, a2, h3, h4, h5⟩
theorem c_copySheet {w : ShS} {z : Nat → Int32} {sc : Int} (h : SR w z sc) (u : ShS) : ∃ v : ShS, fX1_copyFrom u w = some v ∧ SR v z sc := by
  obtain ⟨h1, h2, h3, h4, h5, h6, h7⟩ := h
  obtain ⟨r, q1, g⟩ := lp_up (f := bX1_copyFrom_2 w) (fun k st => ∃ u' : ShS, st = (iZ k, u') ∧ ∀ s : Int, 0 ≤ s → s < k → StR (Sh_st u' s.toNat) z s) (fun r => ∀ s : Int, 0 ≤ s → s < sc → StR (Sh_st r s.toNat) z s) (i := 0) (n := sc) h1.1 (by
    rintro k st k0 k1 ⟨u', rfl, a⟩
    obtain ⟨x', c1, c2⟩ := c_copyR (Sh_st u' k.toNat) (h4 k k0 k1)
    have e1 := c_at (u := u') k0 (by omega)
    have e2 := c_at (u := w) k0 (by omega)
    refine ⟨(iZ (k + 1), Sh_s_st u' k.toNat x'), ?_, _, rfl, fun s s0 s1 => ?_⟩
    · simp (disch := omega) only [bX1_copyFrom_2, h2, e1, e2, c1, gd_true, gd_dec, lt_def, bind_s, isb_0, isb_1, iZ_add, iZ_sub, iZ_mul, iZ_neg, lZ_add, lZ_sub, lZ_mul, iZ_lt, iZ_le, iZ_eq, lZ_lt, lZ_le, lZ_eq, iZ_64, iZ_N, inb_Z, if_pos, if_neg, ↓reduceIte, Bool.true_eq_false, Bool.false_eq_true, li0, li1, li2, li3, li4, li5, li6, li9, li10, li16, li20, li23, li24, li25, li31, li33, li44, li48, li49, li50, li51, li57, li59, li60, li63, li69, li70, li71, li72, li74, li99, li100, li119, li126, li250, li296, li297, li298, li299, li300, li301, li302, li303, li606, li1515, li1818, li16384, li1048576, li2147483647, li10000, lj0, lj1, lj10000]
    · rw [Sh_at]
      by_cases e : s = k
      · subst e
        rw [if_pos rfl]
        exact c2
      · rw [if_neg (by omega)]
        exact a s s0 (by omega)) (by
    rintro st ⟨u', rfl, a⟩
    refine ⟨u', ?_, a⟩
    simp (disch := omega) only [bX1_copyFrom_2, h2, gd_true, gd_dec, lt_def, bind_s, isb_0, isb_1, iZ_add, iZ_sub, iZ_mul, iZ_neg, lZ_add, lZ_sub, lZ_mul, iZ_lt, iZ_le, iZ_eq, lZ_lt, lZ_le, lZ_eq, iZ_64, iZ_N, inb_Z, if_pos, if_neg, ↓reduceIte, Bool.true_eq_false, Bool.false_eq_true, li0, li1, li2, li3, li4, li5, li6, li9, li10, li16, li20, li23, li24, li25, li31, li33, li44, li48, li49, li50, li51, li57, li59, li60, li63, li69, li70, li71, li72, li74, li99, li100, li119, li126, li250, li296, li297, li298, li299, li300, li301, li302, li303, li606, li1515, li1818, li16384, li1048576, li2147483647, li10000, lj0, lj1, lj10000]) (s := (iZ 0, u)) ⟨u, rfl, fun s a b => by omega⟩
  refine ⟨(r.1, va_cpy (Sh_values w) (Sh_values r) 0 0 4, Sh_strokeCount w, Sh_simplified w, Sh_dropped w), ?_, h1, h2, h3, g, fun i i0 i1 => ?_, h6, h7⟩
  · unfold fX1_copyFrom lX1_copyFrom_2
    rw [show ((0 : Int32), u) = (iZ 0, u) from rfl, q1, bind_s, c_row4]
    rfl
  · obtain ⟨v, a1, a2, a3⟩ := h5 i i0 i1
    refine ⟨v, ?_, a2, a3⟩
    show va_cpy (Sh_values w) (Sh_values r) 0 0 4 i.toNat = _
    rw [cpy_at _ _ (by omega)]
    exact a1
-- the reference's rows of states
def zI (f : Nat → Int32) (b : Int) : Nat → Int32 := fun j => f (b + (j : Int)).toNat
theorem zI_at {f : Nat → Int32} {b j : Int} (hj : 0 ≤ j) : zI f b j.toNat = f (b + j).toNat := by
  unfold zI
  rw [Int.toNat_of_nonneg hj]
def cs (c : Int) : Int := if c = 6 then 5 else c
def Svd (c : Int) (z sv sv2 : Nat → Int32) : Prop := (∀ i j : Int, 0 ≤ i → i < cs c → 0 ≤ j → j < 303 → sv2 (303 * i + j).toNat = sv (303 * (if c = 6 then i + 1 else i) + j).toNat) ∧ ∀ j : Int, 0 ≤ j → j < 303 → sv2 (303 * cs c + j).toNat = z j.toNat
-- the class's ring
def HR (h : HS) (sv : Nat → Int32) (c : Int) : Prop := ∃ o : Int, (0 ≤ o ∧ o < 6) ∧ (0 ≤ c ∧ c ≤ 6) ∧ h.2.1 = iZ o ∧ h.2.2 = iZ c ∧ ∀ i : Int, 0 ≤ i → i < c → ∃ (w : ShS) (sc : Int), h.1 ((o + i) % 6).toNat = some w ∧ SR w (zI sv (303 * i)) sc
theorem hp6 {a : Int} (h0 : 0 ≤ a) (h1 : a < 13) : hsPlace (iZ a) = iZ (a % 6) := by
  obtain ⟨m, rfl⟩ := nat_of h0
  exact co_dec (N := 13) (P := fun m : Nat => hsPlace (iZ m) = iZ ((m : Int) % 6)) (by decide +kernel) (by omega)
theorem c_put {r : Nat → Option ShS} {o c p : Int} {u : ShS} {z : Nat → Int32} {sc : Int} (S : SR u z sc) (p0 : 0 ≤ p) (p1 : p < 6) : ∃ v : ShS, fX0_put (r, iZ o, iZ c) u (iZ p) = some (va_up r p.toNat (some v), iZ o, iZ (c + 1)) ∧ SR v z sc := by
  obtain ⟨v, a1, a2⟩ := c_copySheet S ((r p.toNat).getD ShNew)
  refine ⟨v, ?_, a2⟩
  unfold fX0_put
  simp (disch := omega) only [a1, gd_true, gd_dec, lt_def, bind_s, isb_0, isb_1, iZ_add, iZ_sub, iZ_mul, iZ_neg, lZ_add, lZ_sub, lZ_mul, iZ_lt, iZ_le, iZ_eq, lZ_lt, lZ_le, lZ_eq, iZ_64, iZ_N, inb_Z, if_pos, if_neg, ↓reduceIte, Bool.true_eq_false, Bool.false_eq_true, li0, li1, li2, li3, li4, li5, li6, li9, li10, li16, li20, li23, li24, li25, li31, li33, li44, li48, li49, li50, li51, li57, li59, li60, li63, li69, li70, li71, li72, li74, li99, li100, li119, li126, li250, li296, li297, li298, li299, li300, li301, li302, li303, li606, li1515, li1818, li16384, li1048576, li2147483647, li10000, lj0, lj1, lj10000]
theorem c_save {h : HS} {sv sv2 z : Nat → Int32} {c sc : Int} {u : ShS} (H : HR h sv c) (S : SR u z sc) (V : Svd c z sv sv2) : ∃ h' : HS, fX0_save h u = some h' ∧ HR h' sv2 (cs c + 1) := by
  obtain ⟨o, ho, hc, e1, e2, hw⟩ := H
  obtain ⟨r, oo, cc⟩ := h
  have e1 : oo = iZ o := e1
  have e2 : cc = iZ c := e2
  subst e1
  subst e2
  obtain ⟨V1, V2⟩ := V
  have key : ∀ o1 : Int, 0 ≤ o1 → o1 < 6 → hsShift (r, iZ o, iZ c) = (r, iZ o1, iZ (cs c)) → (∀ i : Int, 0 ≤ i → i < cs c → ∃ (w : ShS) (sc : Int), r ((o1 + i) % 6).toNat = some w ∧ SR w (zI sv2 (303 * i)) sc) → 0 ≤ cs c → cs c ≤ 5 → ∃ h' : HS, fX0_save (r, iZ o, iZ c) u = some h' ∧ HR h' sv2 (cs c + 1) := by
    intro o1 p0 p1 hsh hold q0 q1
    obtain ⟨v, a1, a2⟩ := c_put (r := r) (o := o1) (c := cs c) (p := (o1 + cs c) % 6) S (by omega) (by omega)
    refine ⟨(va_up r ((o1 + cs c) % 6).toNat (some v), iZ o1, iZ (cs c + 1)), ?_, o1, ⟨p0, p1⟩, by omega, rfl, rfl, fun i i0 i1 => ?_⟩
    · unfold fX0_save
      rw [hsh]
      show fX0_put (r, iZ o1, iZ (cs c)) u (hsPlace (iZ o1 + iZ (cs c))) = _
      rw [iZ_add, hp6 (by omega) (by omega)]
      exact a1
    · by_cases e : i = cs c
      · subst e
        refine ⟨v, sc, vu_self _ _ _, a2.cg (fun j j0 j1 => ?_)⟩
        rw [zI_at j0]
        exact V2 j j0 j1
      · obtain ⟨w, sc', b1, b2⟩ := hold i i0 (by omega)
        refine ⟨w, sc', ?_, b2⟩
        show va_up r _ _ _ = _
        rw [vu_ne _ _ (by omega)]
        exact b1
  unfold cs at key V1 ⊢
  by_cases e : c = 6
  · subst e
    rw [if_pos rfl] at key V1 ⊢
    refine key ((o + 1) % 6) (by omega) (by omega) ?_ (fun i i0 i1 => ?_) (by omega) (by omega)
    · have e9 : (iZ o + 1) - (iZ o + 1) / 6 * 6 = iZ ((o + 1) % 6) := by
        have := hp6 (a := o + 1) (by omega) (by omega)
        rw [← iZ_add] at this
        exact this
      unfold hsShift
      show (if iZ 6 = 6 then (r, (iZ o + 1) - (iZ o + 1) / 6 * 6, iZ 6 - 1) else _) = _
      rw [if_pos (show iZ 6 = 6 from rfl), e9]
      rfl
    · obtain ⟨w, sc', b1, b2⟩ := hw (i + 1) (by omega) (by omega)
      refine ⟨w, sc', ?_, b2.cg (fun j j0 j1 => ?_)⟩
      · rw [← b1]
        congr 2
        omega
      · rw [zI_at j0, zI_at j0, V1 i j i0 i1 j0 j1, if_pos rfl]
  · rw [if_neg e] at key V1 ⊢
    refine key o ho.1 ho.2 ?_ (fun i i0 i1 => ?_) hc.1 (by omega)
    · unfold hsShift
      show (if iZ c = 6 then _ else _) = _
      have ne : ¬ iZ c = 6 := by
        rw [li6, iZ_eq (by omega) (by omega) (by omega) (by omega)]
        exact e
      exact if_neg ne
    · obtain ⟨w, sc', b1, b2⟩ := hw i i0 i1
      refine ⟨w, sc', b1, b2.cg (fun j j0 j1 => ?_)⟩
      rw [zI_at j0, zI_at j0, V1 i j i0 i1 j0 j1, if_neg e]
end
