/-! p28: the calls of the law on the one stroke -/
section LF1
variable {u : ShS} {f : Nat → Int32} {n : Int} {N : Int → Int} {K F : Int32} {v : Int → Int} {hs : HS}
theorem PS1.sr (P : PS1 u n N K v) : ∃ z : Nat → Int32, SR u z 1 := by
  obtain ⟨⟨h1, M, hc⟩, ⟨m, hst, hm⟩, hv⟩ := id P
  have hn := M.1
  obtain ⟨z, hz⟩ : ∃ z : Nat → Int32, z = fun k : Nat => if k = 0 then iZ n else if k = 1 then K else if k < 74 then iZ (N ((k : Int) - 2)) else if k = 296 then iZ 1 else if k = 301 then Sh_simplified u else if k = 302 then Sh_dropped u else iZ (v ((k : Int) - 297)) := ⟨_, rfl⟩
  refine ⟨z, ⟨by omega, by omega⟩, h1, by rw [hz]; rfl, fun s s0 s1 => ?_, fun i i0 i1 => ?_, by rw [hz]; rfl, by rw [hz]; rfl⟩
  · have : s = 0 := by omega
    subst this
    refine ⟨n, N, K, m, hst, hm, M, hc, by rw [hz]; rfl, by rw [hz]; rfl, fun j j0 j1 => ?_⟩
    obtain ⟨i, rfl⟩ := nat_of j0
    have e : (74 * 0 + 2 + (i : Int)).toNat = i + 2 := by omega
    rw [e, hz]
    show (if i + 2 = 0 then _ else if i + 2 = 1 then _ else if i + 2 < 74 then _ else _) = _
    rw [if_neg (by omega), if_neg (by omega), if_pos (by omega), show ((i + 2 : Nat) : Int) - 2 = (i : Int) by omega]
  · obtain ⟨g1, g2, g3⟩ := hv i i0 i1
    refine ⟨v i, g1, ?_, g2, g3⟩
    obtain ⟨k, rfl⟩ := nat_of i0
    have e : (297 + (k : Int)).toNat = k + 297 := by omega
    rw [e, hz]
    show (if k + 297 = 0 then _ else if k + 297 = 1 then _ else if k + 297 < 74 then _ else if k + 297 = 296 then _ else if k + 297 = 301 then _ else if k + 297 = 302 then _ else _) = _
    rw [if_neg (by omega), if_neg (by omega), if_neg (by omega), if_neg (by omega), if_neg (by omega), if_neg (by omega), show ((k + 297 : Nat) : Int) - 297 = (k : Int) by omega]
def HI (hs : HS) : Prop := ∃ (sv : Nat → Int32) (c : Int), HR hs sv c
theorem save_ok {z : Nat → Int32} {sc : Int} (S : SR u z sc) (H : HI hs) : ∃ hs' : HS, fX0_save hs u = some hs' ∧ HI hs' := by
  obtain ⟨sv, c, H⟩ := H
  obtain ⟨sv2, h2⟩ : ∃ sv2 : Nat → Int32, sv2 = fun k : Nat => if (k : Int) / 303 < cs c then sv (303 * (if c = 6 then (k : Int) / 303 + 1 else (k : Int) / 303) + (k : Int) % 303).toNat else z ((k : Int) % 303).toNat := ⟨_, rfl⟩
  have c0 : 0 ≤ cs c := by
    obtain ⟨o, -, hc, -⟩ := H
    unfold cs
    split <;> omega
  have V : Svd c z sv sv2 := by
    refine ⟨fun i j i0 i1 j0 j1 => ?_, fun j j0 j1 => ?_⟩
    · have e0 : ((303 * i + j).toNat : Int) = 303 * i + j := by omega
      have e1 : ((303 * i + j).toNat : Int) / 303 = i := by omega
      have e2 : ((303 * i + j).toNat : Int) % 303 = j := by omega
      rw [h2]
      show (if ((303 * i + j).toNat : Int) / 303 < cs c then _ else _) = _
      rw [e1, e2, if_pos i1]
    · have e0 : ((303 * cs c + j).toNat : Int) = 303 * cs c + j := by omega
      have e1 : ((303 * cs c + j).toNat : Int) / 303 = cs c := by omega
      have e2 : ((303 * cs c + j).toNat : Int) % 303 = j := by omega
      rw [h2]
      show (if ((303 * cs c + j).toNat : Int) / 303 < cs c then _ else _) = _
      rw [e1, e2, if_neg (by omega)]
  obtain ⟨h', e, hr⟩ := c_save H S V
  exact ⟨h', e, sv2, _, hr⟩
theorem PS1.save (P : PS1 u n N K v) (H : HI hs) : ∃ hs' : HS, fX0_save hs u = some hs' ∧ HI hs' := by
  obtain ⟨z, S⟩ := P.sr
  exact save_ok S H
theorem HI0 : HI H0s := ⟨fun _ => 0, 0, 0, by omega, by omega, rfl, rfl, fun i i0 i1 => by omega⟩
theorem b0 : B32 0 := ⟨by omega, by omega⟩
theorem PS1.ex (P : PS1 u n N K v) : fX5_existingStroke (iZ 0) u = some (.inr 0) := by
  obtain ⟨z, S⟩ := P.sr
  exact exY b0 S ⟨by omega, by omega⟩
theorem PS1.no (P : PS1 u n N K v) {a : Int} (A : B32 a) (h : ¬ a = 0) : fX5_existingStroke (iZ a) u = some (.inl 0) := by
  obtain ⟨z, S⟩ := P.sr
  exact exN A S (by omega)
theorem PS1.upd (P : PS1 u n N K v) {m' : Nat → Int32} {n' : Int} {N' : Int → Int} {K' : Int32} (hm' : Row m' n' N') (M' : MK n' K') (hc' : Crd n' N') : PS1 (Sh_s_st u 0 (m', iZ n', K')) n' N' K' v := ⟨⟨P.1.1, M', hc'⟩, ⟨m', Sh_same u 0 _, hm'⟩, P.2.2⟩
theorem B_s {a : Int} (h : -1000 ≤ a ∧ a ≤ 1000) : B32 a := ⟨by omega, by omega⟩
/-- insert -/
theorem i_ins (P : PS1 u n N K v) (H : HI hs) (hn : n < 24) {i x y w : Int} (i0 : 0 ≤ i) (i1 : i ≤ n) (hx : inP x y) (hw : 1 ≤ w ∧ w ≤ 20) : ∃ (u' : ShS) (hs' : HS), fL_insert (iZ 0) (iZ i) (iZ x) (iZ y) (iZ w) u hs = some (iZ (n + 1), u', hs') ∧ PS1 u' (n + 1) (insN N i x y w) (allK (n + 1)) v ∧ HI hs' := by
  obtain ⟨hs', s1, H'⟩ := P.save H
  obtain ⟨⟨-, M, hc⟩, ⟨m, hst, hm⟩, -⟩ := id P
  have n2 := M.1
  obtain ⟨q', f5, hm'⟩ := c_insert (K := K) hm ⟨by omega, hn⟩ i0 i1 (x := x) (y := y) (w := w)
  have f1 := P.ex
  have fs : fX3_size (m, iZ n, K) = some (iZ n) := rfl
  have f3 := plcY (B_s (by have := hx.1; omega)) (B_s (by have := hx.2; omega)) hx
  have f4 := widY (B_s (by omega)) hw
  have e : fX5_insert (iZ 0) (iZ i) (iZ x) (iZ y) (iZ w) u hs = some (.inr (iZ (n + 1), Sh_s_st u 0 (q', iZ (n + 1), allK (n + 1)), hs')) := by
    unfold fX5_insert
    simp (disch := omega) only [f1, hst, fs, f3, f4, s1, f5, fX3_size, S_size, Sum.elim_inl, Sum.elim_inr, Sh_same, d05, gd_true, gd_dec, lt_def, bind_s, isb_0, isb_1, iZ_add, iZ_sub, iZ_mul, iZ_neg, lZ_add, lZ_sub, lZ_mul, iZ_lt, iZ_le, iZ_eq, lZ_lt, lZ_le, lZ_eq, iZ_64, iZ_N, inb_Z, if_pos, if_neg, ↓reduceIte, Bool.true_eq_false, Bool.false_eq_true, li7, li8, li12, li14, li34, li35, li36, li40, li101, li0, li1, li2, li3, li4, li5, li6, li9, li10, li16, li20, li23, li24, li25, li31, li33, li44, li48, li49, li50, li51, li57, li59, li60, li63, li69, li70, li71, li72, li74, li99, li100, li119, li126, li250, li296, li297, li298, li299, li300, li301, li302, li303, li606, li1515, li1818, li16384, li1048576, li2147483647, li10000, lj0, lj1, lj10000]
  refine ⟨_, hs', ?_, P.upd hm' (MK_all (by omega)) (hc.ins i0 i1 hx.1 hx.2 hw), H'⟩
  unfold fL_insert
  rw [e, bind_s]
  rfl
theorem i_insI (P : PS1 u n N K v) {i x y w : Int} (i0 : n < i) (i1 : i ≤ 1000) : fL_insert (iZ 0) (iZ i) (iZ x) (iZ y) (iZ w) u hs = some ((-31), u, hs) := by
  obtain ⟨⟨-, M, hc⟩, ⟨m, hst, hm⟩, -⟩ := id P
  have n2 := M.1
  have f1 := P.ex
  have fs : fX3_size (m, iZ n, K) = some (iZ n) := rfl
  have e : fX5_insert (iZ 0) (iZ i) (iZ x) (iZ y) (iZ w) u hs = some (.inl (0, u, hs)) := by
    unfold fX5_insert
    simp (disch := omega) only [f1, hst, fs, Sum.elim_inl, Sum.elim_inr, d05, gd_true, gd_dec, lt_def, bind_s, isb_0, isb_1, iZ_add, iZ_sub, iZ_mul, iZ_neg, lZ_add, lZ_sub, lZ_mul, iZ_lt, iZ_le, iZ_eq, lZ_lt, lZ_le, lZ_eq, iZ_64, iZ_N, inb_Z, if_pos, if_neg, ↓reduceIte, Bool.true_eq_false, Bool.false_eq_true, li7, li8, li12, li14, li34, li35, li36, li40, li101, li0, li1, li2, li3, li4, li5, li6, li9, li10, li16, li20, li23, li24, li25, li31, li33, li44, li48, li49, li50, li51, li57, li59, li60, li63, li69, li70, li71, li72, li74, li99, li100, li119, li126, li250, li296, li297, li298, li299, li300, li301, li302, li303, li606, li1515, li1818, li16384, li1048576, li2147483647, li10000, lj0, lj1, lj10000]
  unfold fL_insert
  rw [e, bind_s]
  rfl
theorem i_insA (P : PS1 u n N K v) {x y w : Int} (hx : -1000 ≤ x ∧ x ≤ 1000) (hy : -1000 ≤ y ∧ y ≤ 1000) (h : ¬ inP x y) : fL_insert (iZ 0) (iZ 0) (iZ x) (iZ y) (iZ w) u hs = some ((-32), u, hs) := by
  obtain ⟨⟨-, M, hc⟩, ⟨m, hst, hm⟩, -⟩ := id P
  have n2 := M.1
  have f1 := P.ex
  have fs : fX3_size (m, iZ n, K) = some (iZ n) := rfl
  have f3 := plcN (B_s hx) (B_s hy) h
  have e : fX5_insert (iZ 0) (iZ 0) (iZ x) (iZ y) (iZ w) u hs = some (.inl (1, u, hs)) := by
    unfold fX5_insert
    simp (disch := omega) only [f1, hst, fs, f3, Sum.elim_inl, Sum.elim_inr, d05, gd_true, gd_dec, lt_def, bind_s, isb_0, isb_1, iZ_add, iZ_sub, iZ_mul, iZ_neg, lZ_add, lZ_sub, lZ_mul, iZ_lt, iZ_le, iZ_eq, lZ_lt, lZ_le, lZ_eq, iZ_64, iZ_N, inb_Z, if_pos, if_neg, ↓reduceIte, Bool.true_eq_false, Bool.false_eq_true, li7, li8, li12, li14, li34, li35, li36, li40, li101, li0, li1, li2, li3, li4, li5, li6, li9, li10, li16, li20, li23, li24, li25, li31, li33, li44, li48, li49, li50, li51, li57, li59, li60, li63, li69, li70, li71, li72, li74, li99, li100, li119, li126, li250, li296, li297, li298, li299, li300, li301, li302, li303, li606, li1515, li1818, li16384, li1048576, li2147483647, li10000, lj0, lj1, lj10000]
  unfold fL_insert
  rw [e, bind_s]
  rfl
/-- change -/
theorem i_chg (P : PS1 u n N K v) (H : HI hs) {i x y w : Int} (i0 : 0 ≤ i) (i1 : i < n) (hx : inP x y) (hw : 1 ≤ w ∧ w ≤ 20) : ∃ (u' : ShS) (hs' : HS), fL_change (iZ 0) (iZ i) (iZ x) (iZ y) (iZ w) u hs = some (iZ (100 * N (3 * i) + N (3 * i + 1)), u', hs') ∧ PS1 u' n (setN N i x y w) (allK n) v ∧ HI hs' := by
  obtain ⟨hs', s1, H'⟩ := P.save H
  obtain ⟨⟨-, M, hc⟩, ⟨m, hst, hm⟩, -⟩ := id P
  have n2 := M.1
  have f1 := P.ex
  have f2 := ptY (q := m) (K := K) (B_s (a := i) (by omega)) ⟨by omega, n2.2⟩ ⟨i0, i1⟩
  have f3 := plcY (B_s (by have := hx.1; omega)) (B_s (by have := hx.2; omega)) hx
  have f4 := widY (B_s (by omega)) hw
  have x1 := c_x (s := iZ n) (K := K) hm n2.2 i0 i1
  have x2 := c_y (s := iZ n) (K := K) hm n2.2 i0 i1
  have x3 := c_putP (m := m) (s := iZ n) (K := K) (k := i) (x := x) (y := y) (w := w) i0 (by omega)
  have x4 := c_keepAll (m := mup m (3 * i) x y w) (n := n) (K := K)
  have e : fX5_change (iZ 0) (iZ i) (iZ x) (iZ y) (iZ w) u hs = some (.inr (iZ (100 * N (3 * i) + N (3 * i + 1)), Sh_s_st u 0 (mup m (3 * i) x y w, iZ n, allK n), hs')) := by
    unfold fX5_change
    simp (disch := omega) only [f1, hst, f2, f3, f4, s1, x1, x2, x3, x4, Sum.elim_inl, Sum.elim_inr, Sh_same, Sh_ss, d05, gd_true, gd_dec, lt_def, bind_s, isb_0, isb_1, iZ_add, iZ_sub, iZ_mul, iZ_neg, lZ_add, lZ_sub, lZ_mul, iZ_lt, iZ_le, iZ_eq, lZ_lt, lZ_le, lZ_eq, iZ_64, iZ_N, inb_Z, if_pos, if_neg, ↓reduceIte, Bool.true_eq_false, Bool.false_eq_true, li7, li8, li12, li14, li34, li35, li36, li40, li101, li0, li1, li2, li3, li4, li5, li6, li9, li10, li16, li20, li23, li24, li25, li31, li33, li44, li48, li49, li50, li51, li57, li59, li60, li63, li69, li70, li71, li72, li74, li99, li100, li119, li126, li250, li296, li297, li298, li299, li300, li301, li302, li303, li606, li1515, li1818, li16384, li1048576, li2147483647, li10000, lj0, lj1, lj10000]
  refine ⟨_, hs', ?_, P.upd (hm.set i0 x y w) (MK_all n2) (hc.set hx.1 hx.2 hw), H'⟩
  unfold fL_change
  rw [e, bind_s]
  rfl
theorem i_chgI (P : PS1 u n N K v) {i x y w : Int} (i0 : n ≤ i) (i1 : i ≤ 1000) : fL_change (iZ 0) (iZ i) (iZ x) (iZ y) (iZ w) u hs = some ((-31), u, hs) := by
  obtain ⟨⟨-, M, hc⟩, ⟨m, hst, hm⟩, -⟩ := id P
  have n2 := M.1
  have f1 := P.ex
  have f2 := ptN (q := m) (K := K) (B_s (a := i) (by omega)) ⟨by omega, n2.2⟩ (by omega)
  have e : fX5_change (iZ 0) (iZ i) (iZ x) (iZ y) (iZ w) u hs = some (.inl (0, u, hs)) := by
    unfold fX5_change
    simp (disch := omega) only [f1, hst, f2, Sum.elim_inl, Sum.elim_inr, d05, gd_true, gd_dec, lt_def, bind_s, isb_0, isb_1, iZ_add, iZ_sub, iZ_mul, iZ_neg, lZ_add, lZ_sub, lZ_mul, iZ_lt, iZ_le, iZ_eq, lZ_lt, lZ_le, lZ_eq, iZ_64, iZ_N, inb_Z, if_pos, if_neg, ↓reduceIte, Bool.true_eq_false, Bool.false_eq_true, li7, li8, li12, li14, li34, li35, li36, li40, li101, li0, li1, li2, li3, li4, li5, li6, li9, li10, li16, li20, li23, li24, li25, li31, li33, li44, li48, li49, li50, li51, li57, li59, li60, li63, li69, li70, li71, li72, li74, li99, li100, li119, li126, li250, li296, li297, li298, li299, li300, li301, li302, li303, li606, li1515, li1818, li16384, li1048576, li2147483647, li10000, lj0, lj1, lj10000]
  unfold fL_change
  rw [e, bind_s]
  rfl
theorem i_chgA (P : PS1 u n N K v) {x y w : Int} (hx : inP x y) (w0 : -1000 ≤ w ∧ w ≤ 1000) (hw : ¬ (1 ≤ w ∧ w ≤ 20)) : fL_change (iZ 0) (iZ 0) (iZ x) (iZ y) (iZ w) u hs = some ((-32), u, hs) := by
  obtain ⟨⟨-, M, hc⟩, ⟨m, hst, hm⟩, -⟩ := id P
  have n2 := M.1
  have f1 := P.ex
  have f2 := ptY (q := m) (K := K) (B_s (a := 0) (by omega)) ⟨by omega, n2.2⟩ ⟨by omega, by omega⟩
  have f3 := plcY (B_s (by have := hx.1; omega)) (B_s (by have := hx.2; omega)) hx
  have f4 := widN (B_s w0) hw
  have e : fX5_change (iZ 0) (iZ 0) (iZ x) (iZ y) (iZ w) u hs = some (.inl (1, u, hs)) := by
    unfold fX5_change
    simp (disch := omega) only [f1, hst, f2, f3, f4, Sum.elim_inl, Sum.elim_inr, d05, gd_true, gd_dec, lt_def, bind_s, isb_0, isb_1, iZ_add, iZ_sub, iZ_mul, iZ_neg, lZ_add, lZ_sub, lZ_mul, iZ_lt, iZ_le, iZ_eq, lZ_lt, lZ_le, lZ_eq, iZ_64, iZ_N, inb_Z, if_pos, if_neg, ↓reduceIte, Bool.true_eq_false, Bool.false_eq_true, li7, li8, li12, li14, li34, li35, li36, li40, li101, li0, li1, li2, li3, li4, li5, li6, li9, li10, li16, li20, li23, li24, li25, li31, li33, li44, li48, li49, li50, li51, li57, li59, li60, li63, li69, li70, li71, li72, li74, li99, li100, li119, li126, li250, li296, li297, li298, li299, li300, li301, li302, li303, li606, li1515, li1818, li16384, li1048576, li2147483647, li10000, lj0, lj1, lj10000]
  unfold fL_change
  rw [e, bind_s]
  rfl
/-- remove -/
theorem i_rem (P : PS1 u n N K v) (H : HI hs) (hn : 2 < n) {i : Int} (i0 : 0 ≤ i) (i1 : i < n) : ∃ (u' : ShS) (hs' : HS), fL_remove (iZ 0) (iZ i) u hs = some (iZ (n - 1), u', hs') ∧ PS1 u' (n - 1) (delN N i) (allK (n - 1)) v ∧ HI hs' := by
  obtain ⟨hs', s1, H'⟩ := P.save H
  obtain ⟨⟨-, M, hc⟩, ⟨m, hst, hm⟩, -⟩ := id P
  have n2 := M.1
  have f1 := P.ex
  have f2 := ptY (q := m) (K := K) (B_s (a := i) (by omega)) ⟨by omega, n2.2⟩ ⟨i0, i1⟩
  have fs : fX3_size (m, iZ n, K) = some (iZ n) := rfl
  obtain ⟨q', f5, hm'⟩ := c_remove (K := K) hm ⟨by omega, n2.2⟩ i0 i1
  have e : fX5_remove (iZ 0) (iZ i) u hs = some (.inr (iZ (n - 1), Sh_s_st u 0 (q', iZ (n - 1), allK (n - 1)), hs')) := by
    unfold fX5_remove
    simp (disch := omega) only [f1, hst, f2, fs, s1, f5, fX3_size, S_size, Sum.elim_inl, Sum.elim_inr, Sh_same, d05, gd_true, gd_dec, lt_def, bind_s, isb_0, isb_1, iZ_add, iZ_sub, iZ_mul, iZ_neg, lZ_add, lZ_sub, lZ_mul, iZ_lt, iZ_le, iZ_eq, lZ_lt, lZ_le, lZ_eq, iZ_64, iZ_N, inb_Z, if_pos, if_neg, ↓reduceIte, Bool.true_eq_false, Bool.false_eq_true, li7, li8, li12, li14, li34, li35, li36, li40, li101, li0, li1, li2, li3, li4, li5, li6, li9, li10, li16, li20, li23, li24, li25, li31, li33, li44, li48, li49, li50, li51, li57, li59, li60, li63, li69, li70, li71, li72, li74, li99, li100, li119, li126, li250, li296, li297, li298, li299, li300, li301, li302, li303, li606, li1515, li1818, li16384, li1048576, li2147483647, li10000, lj0, lj1, lj10000]
  refine ⟨_, hs', ?_, P.upd hm' (MK_all (by omega)) (hc.del i0), H'⟩
  unfold fL_remove
  rw [e, bind_s]
  rfl
theorem i_remS (P : PS1 u 2 N K v) {i : Int} (i0 : 0 ≤ i) (i1 : i < 2) : fL_remove (iZ 0) (iZ i) u hs = some ((-33), u, hs) := by
  obtain ⟨⟨-, M, hc⟩, ⟨m, hst, hm⟩, -⟩ := id P
  have f1 := P.ex
  have f2 := ptY (q := m) (K := K) (n := 2) (B_s (a := i) (by omega)) ⟨by omega, by omega⟩ ⟨i0, i1⟩
  have fs : fX3_size (m, iZ 2, K) = some (iZ 2) := rfl
  have e : fX5_remove (iZ 0) (iZ i) u hs = some (.inl (2, u, hs)) := by
    unfold fX5_remove
    simp (disch := omega) only [f1, hst, f2, fs, Sum.elim_inl, Sum.elim_inr, d05, gd_true, gd_dec, lt_def, bind_s, isb_0, isb_1, iZ_add, iZ_sub, iZ_mul, iZ_neg, lZ_add, lZ_sub, lZ_mul, iZ_lt, iZ_le, iZ_eq, lZ_lt, lZ_le, lZ_eq, iZ_64, iZ_N, inb_Z, if_pos, if_neg, ↓reduceIte, Bool.true_eq_false, Bool.false_eq_true, li7, li8, li12, li14, li34, li35, li36, li40, li101, li0, li1, li2, li3, li4, li5, li6, li9, li10, li16, li20, li23, li24, li25, li31, li33, li44, li48, li49, li50, li51, li57, li59, li60, li63, li69, li70, li71, li72, li74, li99, li100, li119, li126, li250, li296, li297, li298, li299, li300, li301, li302, li303, li606, li1515, li1818, li16384, li1048576, li2147483647, li10000, lj0, lj1, lj10000]
  unfold fL_remove
  rw [e, bind_s]
  rfl
theorem i_remI (P : PS1 u n N K v) {i : Int} : fL_remove (iZ 1) (iZ i) u hs = some ((-31), u, hs) := by
  have f1 := P.no (a := 1) (B_s (by omega)) (by omega)
  have e : fX5_remove (iZ 1) (iZ i) u hs = some (.inl (0, u, hs)) := by
    unfold fX5_remove
    simp (disch := omega) only [f1, Sum.elim_inl, Sum.elim_inr, gd_true, gd_dec, lt_def, bind_s, isb_0, isb_1, iZ_add, iZ_sub, iZ_mul, iZ_neg, lZ_add, lZ_sub, lZ_mul, iZ_lt, iZ_le, iZ_eq, lZ_lt, lZ_le, lZ_eq, iZ_64, iZ_N, inb_Z, if_pos, if_neg, ↓reduceIte, Bool.true_eq_false, Bool.false_eq_true, li7, li8, li12, li14, li34, li35, li36, li40, li101, li0, li1, li2, li3, li4, li5, li6, li9, li10, li16, li20, li23, li24, li25, li31, li33, li44, li48, li49, li50, li51, li57, li59, li60, li63, li69, li70, li71, li72, li74, li99, li100, li119, li126, li250, li296, li297, li298, li299, li300, li301, li302, li303, li606, li1515, li1818, li16384, li1048576, li2147483647, li10000, lj0, lj1, lj10000]
  unfold fL_remove
  rw [e, bind_s]
  rfl
/-- bake -/
theorem i_bake (P : PS1 u n N K v) (H : HI hs) : ∃ (u' : ShS) (hs' : HS) (m' : Nat → Int32), fL_bake (iZ 0) u hs = some (iZ (n - cK K n), u', hs') ∧ u' = Sh_s_st u 0 (m', iZ (cK K n), allK (cK K n)) ∧ (∀ i w : Int, 0 ≤ i → i < n → hb K i = true → 0 ≤ w → w < 3 → m' (3 * cK K i + w).toNat = iZ (N (3 * i + w))) ∧ HI hs' := by
  obtain ⟨hs', s1, H'⟩ := P.save H
  obtain ⟨⟨-, M, hc⟩, ⟨m, hst, hm⟩, -⟩ := id P
  have n2 := M.1
  have f1 := P.ex
  have fs : fX3_size (m, iZ n, K) = some (iZ n) := rfl
  obtain ⟨q', f5, hs5⟩ := c_unkept (K := K) hm ⟨by omega, n2.2⟩
  have e : fX5_bake (iZ 0) u hs = some (.inr (iZ (n - cK K n), Sh_s_st u 0 (q', iZ (cK K n), allK (cK K n)), hs')) := by
    unfold fX5_bake
    simp (disch := omega) only [f1, hst, fs, s1, f5, fX3_size, S_size, Sum.elim_inl, Sum.elim_inr, Sh_same, d05, gd_true, gd_dec, lt_def, bind_s, isb_0, isb_1, iZ_add, iZ_sub, iZ_mul, iZ_neg, lZ_add, lZ_sub, lZ_mul, iZ_lt, iZ_le, iZ_eq, lZ_lt, lZ_le, lZ_eq, iZ_64, iZ_N, inb_Z, if_pos, if_neg, ↓reduceIte, Bool.true_eq_false, Bool.false_eq_true, li7, li8, li12, li14, li34, li35, li36, li40, li101, li0, li1, li2, li3, li4, li5, li6, li9, li10, li16, li20, li23, li24, li25, li31, li33, li44, li48, li49, li50, li51, li57, li59, li60, li63, li69, li70, li71, li72, li74, li99, li100, li119, li126, li250, li296, li297, li298, li299, li300, li301, li302, li303, li606, li1515, li1818, li16384, li1048576, li2147483647, li10000, lj0, lj1, lj10000]
  refine ⟨_, hs', q', ?_, rfl, hs5, H'⟩
  unfold fL_bake
  rw [e, bind_s]
  rfl
theorem i_bakeI (P : PS1 u n N K v) : fL_bake (iZ (-1)) u hs = some ((-31), u, hs) := by
  have f1 := P.no (a := -1) (B_s (by omega)) (by omega)
  have e : fX5_bake (iZ (-1)) u hs = some (.inl (0, u, hs)) := by
    unfold fX5_bake
    simp (disch := omega) only [f1, Sum.elim_inl, Sum.elim_inr, gd_true, gd_dec, lt_def, bind_s, isb_0, isb_1, iZ_add, iZ_sub, iZ_mul, iZ_neg, lZ_add, lZ_sub, lZ_mul, iZ_lt, iZ_le, iZ_eq, lZ_lt, lZ_le, lZ_eq, iZ_64, iZ_N, inb_Z, if_pos, if_neg, ↓reduceIte, Bool.true_eq_false, Bool.false_eq_true, li7, li8, li12, li14, li34, li35, li36, li40, li101, li0, li1, li2, li3, li4, li5, li6, li9, li10, li16, li20, li23, li24, li25, li31, li33, li44, li48, li49, li50, li51, li57, li59, li60, li63, li69, li70, li71, li72, li74, li99, li100, li119, li126, li250, li296, li297, li298, li299, li300, li301, li302, li303, li606, li1515, li1818, li16384, li1048576, li2147483647, li10000, lj0, lj1, lj10000]
  unfold fL_bake
  rw [e, bind_s]
  rfl
/-- set -/
theorem i_set (P : PS1 u n N K v) (H : HI hs) {i x : Int} (i0 : 0 ≤ i) (i1 : i < 4) (x0 : vlo i ≤ x) (x1 : x ≤ vhi i) : ∃ (u' : ShS) (hs' : HS) (v' : Int → Int), fL_set (iZ i) (iZ x) u hs = some (iZ (v i), u', hs') ∧ PS1 u' n N K v' ∧ HI hs' := by
  obtain ⟨hs', s1, H'⟩ := P.save H
  have vb := v_b i0 i1
  have f1 := stgY (B_s (a := i) (by omega)) ⟨i0, i1⟩
  have f2 := cT1 i0 i1
  have f3 := cT2 i0 i1
  have f4 := btwY (B_s (a := x) (by omega)) (lo := vlo i) (hi := vhi i) (by omega) (by omega) ⟨x0, x1⟩
  have f5 := q_val P i0 i1
  have f6 : fX1_putValue (iZ i) (iZ x) u = some (Sh_s_values u (upd (Sh_values u) i.toNat (iZ x))) := by
    have := c_putc (f := Sh_values u) (v := iZ x) (j := i) (na := 4) i0 i1 (by omega)
    unfold fX1_putValue
    simp (disch := omega) only [this, gd_true, gd_dec, lt_def, bind_s, isb_0, isb_1, iZ_add, iZ_sub, iZ_mul, iZ_neg, lZ_add, lZ_sub, lZ_mul, iZ_lt, iZ_le, iZ_eq, lZ_lt, lZ_le, lZ_eq, iZ_64, iZ_N, inb_Z, if_pos, if_neg, ↓reduceIte, Bool.true_eq_false, Bool.false_eq_true, li7, li8, li12, li14, li34, li35, li36, li40, li101, li0, li1, li2, li3, li4, li5, li6, li9, li10, li16, li20, li23, li24, li25, li31, li33, li44, li48, li49, li50, li51, li57, li59, li60, li63, li69, li70, li71, li72, li74, li99, li100, li119, li126, li250, li296, li297, li298, li299, li300, li301, li302, li303, li606, li1515, li1818, li16384, li1048576, li2147483647, li10000, lj0, lj1, lj10000]
  have e : fX5_set (iZ i) (iZ x) u hs = some (.inr (iZ (v i), Sh_s_values u (upd (Sh_values u) i.toNat (iZ x)), hs')) := by
    unfold fX5_set
    simp (disch := omega) only [f1, f2, f3, f4, s1, f5, f6, Sum.elim_inl, Sum.elim_inr, gd_true, gd_dec, lt_def, bind_s, isb_0, isb_1, iZ_add, iZ_sub, iZ_mul, iZ_neg, lZ_add, lZ_sub, lZ_mul, iZ_lt, iZ_le, iZ_eq, lZ_lt, lZ_le, lZ_eq, iZ_64, iZ_N, inb_Z, if_pos, if_neg, ↓reduceIte, Bool.true_eq_false, Bool.false_eq_true, li7, li8, li12, li14, li34, li35, li36, li40, li101, li0, li1, li2, li3, li4, li5, li6, li9, li10, li16, li20, li23, li24, li25, li31, li33, li44, li48, li49, li50, li51, li57, li59, li60, li63, li69, li70, li71, li72, li74, li99, li100, li119, li126, li250, li296, li297, li298, li299, li300, li301, li302, li303, li606, li1515, li1818, li16384, li1048576, li2147483647, li10000, lj0, lj1, lj10000]
  refine ⟨Sh_s_values u (upd (Sh_values u) i.toNat (iZ x)), hs', fun j => if j = i then x else v j, ?_, ⟨P.1, P.2.1, fun j j0 j1 => ?_⟩, H'⟩
  · unfold fL_set
    rw [e, bind_s]
    rfl
  · show upd (Sh_values u) i.toNat (iZ x) j.toNat = iZ (if j = i then x else v j) ∧ vlo j ≤ (if j = i then x else v j) ∧ (if j = i then x else v j) ≤ vhi j
    by_cases ej : j = i
    · subst ej
      rw [if_pos rfl]
      exact ⟨upd_s, x0, x1⟩
    · rw [if_neg ej, upd_n (by omega)]
      exact P.2.2 j j0 j1
theorem i_setI (P : PS1 u n N K v) {x : Int} : fL_set (iZ 4) (iZ x) u hs = some ((-31), u, hs) := by
  have f1 := stgN (B_s (a := 4) (by omega)) (by omega)
  have e : fX5_set (iZ 4) (iZ x) u hs = some (.inl (0, u, hs)) := by
    unfold fX5_set
    simp (disch := omega) only [f1, Sum.elim_inl, Sum.elim_inr, gd_true, gd_dec, lt_def, bind_s, isb_0, isb_1, iZ_add, iZ_sub, iZ_mul, iZ_neg, lZ_add, lZ_sub, lZ_mul, iZ_lt, iZ_le, iZ_eq, lZ_lt, lZ_le, lZ_eq, iZ_64, iZ_N, inb_Z, if_pos, if_neg, ↓reduceIte, Bool.true_eq_false, Bool.false_eq_true, li7, li8, li12, li14, li34, li35, li36, li40, li101, li0, li1, li2, li3, li4, li5, li6, li9, li10, li16, li20, li23, li24, li25, li31, li33, li44, li48, li49, li50, li51, li57, li59, li60, li63, li69, li70, li71, li72, li74, li99, li100, li119, li126, li250, li296, li297, li298, li299, li300, li301, li302, li303, li606, li1515, li1818, li16384, li1048576, li2147483647, li10000, lj0, lj1, lj10000]
  unfold fL_set
  rw [e, bind_s]
  rfl
theorem i_setA (P : PS1 u n N K v) {i x : Int} (i0 : 0 ≤ i) (i1 : i < 4) (xb : -1000 ≤ x ∧ x ≤ 1000) (h : ¬ (vlo i ≤ x ∧ x ≤ vhi i)) : fL_set (iZ i) (iZ x) u hs = some ((-32), u, hs) := by
  have vb := v_b i0 i1
  have f1 := stgY (B_s (a := i) (by omega)) ⟨i0, i1⟩
  have f2 := cT1 i0 i1
  have f3 := cT2 i0 i1
  have f4 := btwN (B_s (a := x) (by omega)) (lo := vlo i) (hi := vhi i) (by omega) (by omega) h
  have e : fX5_set (iZ i) (iZ x) u hs = some (.inl (1, u, hs)) := by
    unfold fX5_set
    simp (disch := omega) only [f1, f2, f3, f4, Sum.elim_inl, Sum.elim_inr, gd_true, gd_dec, lt_def, bind_s, isb_0, isb_1, iZ_add, iZ_sub, iZ_mul, iZ_neg, lZ_add, lZ_sub, lZ_mul, iZ_lt, iZ_le, iZ_eq, lZ_lt, lZ_le, lZ_eq, iZ_64, iZ_N, inb_Z, if_pos, if_neg, ↓reduceIte, Bool.true_eq_false, Bool.false_eq_true, li7, li8, li12, li14, li34, li35, li36, li40, li101, li0, li1, li2, li3, li4, li5, li6, li9, li10, li16, li20, li23, li24, li25, li31, li33, li44, li48, li49, li50, li51, li57, li59, li60, li63, li69, li70, li71, li72, li74, li99, li100, li119, li126, li250, li296, li297, li298, li299, li300, li301, li302, li303, li606, li1515, li1818, li16384, li1048576, li2147483647, li10000, lj0, lj1, lj10000]
  unfold fL_set
  rw [e, bind_s]
  rfl
/-- simplify -/
theorem i_simp (P : PS1 u n N K v) (H : HI hs) (hn : n ≤ 12) (hF : IsFx n (kdD N n (v 1) (v 2)) F) {w : Int} (hw : 0 ≤ w ∧ w ≤ 1) (ps : PS) : ∃ (u' : ShS) (ps' : PS) (hs' : HS), fL_simplify (iZ 0) (iZ w) u ps hs = some (iZ (cnt N n F w (v 0)), u', ps', hs') ∧ PS1 u' n N (simS N n F w (v 0)) v ∧ HI hs' := by
  obtain ⟨hs', s1, H'⟩ := P.save H
  obtain ⟨hv0, -⟩ := q_v P
  obtain ⟨⟨h1, M, hc⟩, ⟨m, hst, hm⟩, hv⟩ := id P
  have n2 := M.1
  obtain ⟨F', g1, f3, MF⟩ := q_fix P
  have := hF.uniq g1
  subst this
  have f1 := P.ex
  have f2 := wayY (B_s (a := w) (by omega)) hw
  have f4 := q_val P (i := 0) (by omega) (by omega)
  obtain ⟨ps', f5⟩ := c_simp (K := K) hm hc ⟨n2.1, hn⟩ hv0.1 hv0.2 MF hw ps
  have M9 := sim_MK hm hc ⟨n2.1, hn⟩ hv0.1 hv0.2 MF w
  have f6 : fX3_keepOnly (simS N n F w (v 0)) (m, iZ n, K) = some (m, iZ n, simS N n F w (v 0)) := rfl
  have f7 : fX3_keptCount (m, iZ n, simS N n F w (v 0)) = some (iZ (cnt N n F w (v 0))) := by
    have := M9.ones.1
    unfold fX3_keptCount cnt cK
    simp (disch := omega) only [S_kept, this, gd_true, gd_dec, lt_def, bind_s, isb_0, isb_1, iZ_add, iZ_sub, iZ_mul, iZ_neg, lZ_add, lZ_sub, lZ_mul, iZ_lt, iZ_le, iZ_eq, lZ_lt, lZ_le, lZ_eq, iZ_64, iZ_N, inb_Z, if_pos, if_neg, ↓reduceIte, Bool.true_eq_false, Bool.false_eq_true, li7, li8, li12, li14, li34, li35, li36, li40, li101, li0, li1, li2, li3, li4, li5, li6, li9, li10, li16, li20, li23, li24, li25, li31, li33, li44, li48, li49, li50, li51, li57, li59, li60, li63, li69, li70, li71, li72, li74, li99, li100, li119, li126, li250, li296, li297, li298, li299, li300, li301, li302, li303, li606, li1515, li1818, li16384, li1048576, li2147483647, li10000, lj0, lj1, lj10000]
  have f8 : fX3_size (m, iZ n, simS N n F w (v 0)) = some (iZ n) := rfl
  obtain ⟨u1, hu1⟩ : ∃ u1 : ShS, u1 = Sh_s_st u 0 (m, iZ n, simS N n F w (v 0)) := ⟨_, rfl⟩
  have P1 : PS1 u1 n N (simS N n F w (v 0)) v := by rw [hu1]; exact P.upd hm M9 hc
  have e1 : Sh_st u1 0 = (m, iZ n, simS N n F w (v 0)) := by rw [hu1]; exact Sh_same u 0 _
  obtain ⟨u2, hu2, f9, P2, e2⟩ : ∃ u2 : ShS, u2 = Sh_s_dropped (Sh_s_simplified u1 (Sh_simplified u1 + 1)) (Sh_dropped u1 + iZ (n - cnt N n F w (v 0))) ∧ fX1_noteSimplified (iZ (n - cnt N n F w (v 0))) u1 = some u2 ∧ PS1 u2 n N (simS N n F w (v 0)) v ∧ Sh_st u2 0 = (m, iZ n, simS N n F w (v 0)) := ⟨_, rfl, rfl, ⟨P1.1, P1.2.1, P1.2.2⟩, e1⟩
  have e : fX5_simplify (iZ 0) (iZ w) u ps hs = some (.inr (iZ (cnt N n F w (v 0)), u2, ps', hs')) := by
    unfold fX5_simplify
    simp (disch := omega) only [f1, f2, s1, f3, f4, hst, f5, f6, Sum.elim_inl, Sum.elim_inr, d05, gd_true, gd_dec, lt_def, bind_s, isb_0, isb_1, iZ_add, iZ_sub, iZ_mul, iZ_neg, lZ_add, lZ_sub, lZ_mul, iZ_lt, iZ_le, iZ_eq, lZ_lt, lZ_le, lZ_eq, iZ_64, iZ_N, inb_Z, if_pos, if_neg, ↓reduceIte, Bool.true_eq_false, Bool.false_eq_true, li7, li8, li12, li14, li34, li35, li36, li40, li101, li0, li1, li2, li3, li4, li5, li6, li9, li10, li16, li20, li23, li24, li25, li31, li33, li44, li48, li49, li50, li51, li57, li59, li60, li63, li69, li70, li71, li72, li74, li99, li100, li119, li126, li250, li296, li297, li298, li299, li300, li301, li302, li303, li606, li1515, li1818, li16384, li1048576, li2147483647, li10000, lj0, lj1, lj10000]
    rw [← hu1]
    simp (disch := omega) only [e1, f8, f7, f9, e2, d05, gd_true, gd_dec, lt_def, bind_s, isb_0, isb_1, iZ_add, iZ_sub, iZ_mul, iZ_neg, lZ_add, lZ_sub, lZ_mul, iZ_lt, iZ_le, iZ_eq, lZ_lt, lZ_le, lZ_eq, iZ_64, iZ_N, inb_Z, if_pos, if_neg, ↓reduceIte, Bool.true_eq_false, Bool.false_eq_true, li7, li8, li12, li14, li34, li35, li36, li40, li101, li0, li1, li2, li3, li4, li5, li6, li9, li10, li16, li20, li23, li24, li25, li31, li33, li44, li48, li49, li50, li51, li57, li59, li60, li63, li69, li70, li71, li72, li74, li99, li100, li119, li126, li250, li296, li297, li298, li299, li300, li301, li302, li303, li606, li1515, li1818, li16384, li1048576, li2147483647, li10000, lj0, lj1, lj10000]
  refine ⟨u2, ps', hs', ?_, P2, H'⟩
  unfold fL_simplify
  rw [e, bind_s]
  rfl
theorem i_simpA (P : PS1 u n N K v) (ps : PS) : fL_simplify (iZ 0) (iZ 2) u ps hs = some ((-32), u, ps, hs) := by
  have f1 := P.ex
  have f2 := wayN (B_s (a := 2) (by omega)) (by omega)
  have e : fX5_simplify (iZ 0) (iZ 2) u ps hs = some (.inl (1, u, ps, hs)) := by
    unfold fX5_simplify
    simp (disch := omega) only [f1, f2, Sum.elim_inl, Sum.elim_inr, gd_true, gd_dec, lt_def, bind_s, isb_0, isb_1, iZ_add, iZ_sub, iZ_mul, iZ_neg, lZ_add, lZ_sub, lZ_mul, iZ_lt, iZ_le, iZ_eq, lZ_lt, lZ_le, lZ_eq, iZ_64, iZ_N, inb_Z, if_pos, if_neg, ↓reduceIte, Bool.true_eq_false, Bool.false_eq_true, li7, li8, li12, li14, li34, li35, li36, li40, li101, li0, li1, li2, li3, li4, li5, li6, li9, li10, li16, li20, li23, li24, li25, li31, li33, li44, li48, li49, li50, li51, li57, li59, li60, li63, li69, li70, li71, li72, li74, li99, li100, li119, li126, li250, li296, li297, li298, li299, li300, li301, li302, li303, li606, li1515, li1818, li16384, li1048576, li2147483647, li10000, lj0, lj1, lj10000]
  unfold fL_simplify
  rw [e, bind_s]
  rfl
theorem i_simpI (P : PS1 u n N K v) (ps : PS) : fL_simplify (iZ 1) (iZ 0) u ps hs = some ((-31), u, ps, hs) := by
  have f1 := P.no (a := 1) (B_s (by omega)) (by omega)
  have e : fX5_simplify (iZ 1) (iZ 0) u ps hs = some (.inl (0, u, ps, hs)) := by
    unfold fX5_simplify
    simp (disch := omega) only [f1, Sum.elim_inl, Sum.elim_inr, gd_true, gd_dec, lt_def, bind_s, isb_0, isb_1, iZ_add, iZ_sub, iZ_mul, iZ_neg, lZ_add, lZ_sub, lZ_mul, iZ_lt, iZ_le, iZ_eq, lZ_lt, lZ_le, lZ_eq, iZ_64, iZ_N, inb_Z, if_pos, if_neg, ↓reduceIte, Bool.true_eq_false, Bool.false_eq_true, li7, li8, li12, li14, li34, li35, li36, li40, li101, li0, li1, li2, li3, li4, li5, li6, li9, li10, li16, li20, li23, li24, li25, li31, li33, li44, li48, li49, li50, li51, li57, li59, li60, li63, li69, li70, li71, li72, li74, li99, li100, li119, li126, li250, li296, li297, li298, li299, li300, li301, li302, li303, li606, li1515, li1818, li16384, li1048576, li2147483647, li10000, lj0, lj1, lj10000]
  unfold fL_simplify
  rw [e, bind_s]
  rfl
/-- the first stroke -/
theorem i_strA : fL_stroke (iZ 5) (iZ 5) (iZ 100) (iZ 20) u hs = some ((-32), u, hs) := by
  have f1 := plcY (B_s (a := 5) (by omega)) (B_s (a := 5) (by omega)) ⟨by omega, by omega⟩
  have f2 := plcN (B_s (a := 100) (by omega)) (B_s (a := 20) (by omega)) (fun q => by have := q.1; omega)
  have e : fX5_stroke (iZ 5) (iZ 5) (iZ 100) (iZ 20) u hs = some (.inl (1, u, hs)) := by
    unfold fX5_stroke
    simp (disch := omega) only [f1, f2, Sum.elim_inl, Sum.elim_inr, gd_true, gd_dec, lt_def, bind_s, isb_0, isb_1, iZ_add, iZ_sub, iZ_mul, iZ_neg, lZ_add, lZ_sub, lZ_mul, iZ_lt, iZ_le, iZ_eq, lZ_lt, lZ_le, lZ_eq, iZ_64, iZ_N, inb_Z, if_pos, if_neg, ↓reduceIte, Bool.true_eq_false, Bool.false_eq_true, li7, li8, li12, li14, li34, li35, li36, li40, li101, li0, li1, li2, li3, li4, li5, li6, li9, li10, li16, li20, li23, li24, li25, li31, li33, li44, li48, li49, li50, li51, li57, li59, li60, li63, li69, li70, li71, li72, li74, li99, li100, li119, li126, li250, li296, li297, li298, li299, li300, li301, li302, li303, li606, li1515, li1818, li16384, li1048576, li2147483647, li10000, lj0, lj1, lj10000]
  unfold fL_stroke
  rw [e, bind_s]
  rfl
def N0 : Int → Int := setN (setN (fun _ => 0) 0 5 5 5) 1 40 20 5
def v0 : Int → Int := fun i => if i = 0 then 3 else if i = 1 then 50 else if i = 2 then 4 else 20
theorem v0_ok {i : Int} (i0 : 0 ≤ i) (i1 : i < 4) : kf0 i.toNat = iZ (v0 i) ∧ vlo i ≤ v0 i ∧ v0 i ≤ vhi i := by
  have : i = 0 ∨ i = 1 ∨ i = 2 ∨ i = 3 := by omega
  rcases this with rfl | rfl | rfl | rfl
  · exact ⟨rfl, by decide, by decide⟩
  · exact ⟨rfl, by decide, by decide⟩
  · exact ⟨rfl, by decide, by decide⟩
  · exact ⟨rfl, by decide, by decide⟩
theorem sr_new : ∃ z : Nat → Int32, SR ShNew z 0 := by
  obtain ⟨z, hz⟩ : ∃ z : Nat → Int32, z = fun k : Nat => if k < 297 then 0 else if k < 301 then iZ (v0 ((k : Int) - 297)) else 0 := ⟨_, rfl⟩
  refine ⟨z, ⟨by omega, by omega⟩, rfl, by rw [hz]; rfl, fun s s0 s1 => by omega, fun i i0 i1 => ?_, by rw [hz]; rfl, by rw [hz]; rfl⟩
  obtain ⟨h1, h2, h3⟩ := v0_ok i0 i1
  refine ⟨v0 i, h1, ?_, h2, h3⟩
  obtain ⟨k, rfl⟩ := nat_of i0
  have e : (297 + (k : Int)).toNat = k + 297 := by omega
  rw [e, hz]
  show (if k + 297 < 297 then _ else if k + 297 < 301 then _ else _) = _
  rw [if_neg (by omega), if_pos (by omega), show ((k + 297 : Nat) : Int) - 297 = (k : Int) by omega]
theorem N0_ok : Crd 2 N0 := by
  have C0 : Crd 0 (fun _ => 0) := fun k a b => by omega
  have C1 := C0.add (a := 5) (b := 5) (w := 5) (by omega) (by omega) (by omega)
  exact C1.add (a := 40) (b := 20) (w := 5) (by omega) (by omega) (by omega)
theorem i_str (H : HI hs) : ∃ (u' : ShS) (hs' : HS), fL_stroke (iZ 5) (iZ 5) (iZ 40) (iZ 20) ShNew hs = some (iZ 0, u', hs') ∧ PS1 u' 2 N0 (allK 2) v0 ∧ HI hs' := by
  obtain ⟨z, S⟩ := sr_new
  obtain ⟨hs', s1, H'⟩ := save_ok S H
  have f1 := plcY (B_s (a := 5) (by omega)) (B_s (a := 5) (by omega)) ⟨by omega, by omega⟩
  have f2 := plcY (B_s (a := 40) (by omega)) (B_s (a := 20) (by omega)) ⟨by omega, by omega⟩
  have f3 := roomY S (by omega)
  have f4 : fX1_openStroke ShNew = some (0, Sh_s_strokeCount (Sh_s_st ShNew 0 (S_numbers (Sh_st ShNew 0), iZ 0, iZ 0)) (iZ 1)) := c_open (u := ShNew) (sc := 0) rfl (by omega) (by omega)
  have f5 := c_addP (m := S_numbers (Sh_st ShNew 0)) (c := 0) (K := iZ 0) (a := 5) (b := 5) (w := 5) (by omega) (by omega)
  have f6 := c_addP (m := mup (S_numbers (Sh_st ShNew 0)) (3 * 0) 5 5 5) (c := 0 + 1) (K := allK (0 + 1)) (a := 40) (b := 20) (w := 5) (by omega) (by omega)
  have st1 : ∀ x : SS, Sh_st (Sh_s_strokeCount (Sh_s_st ShNew 0 x) (iZ 1)) 0 = x := fun x => Sh_same ShNew 0 x
  have st2 : ∀ x : SS, Sh_strokeCount (Sh_s_strokeCount (Sh_s_st ShNew 0 x) (iZ 1)) = iZ 1 := fun x => rfl
  have e : fX5_stroke (iZ 5) (iZ 5) (iZ 40) (iZ 20) ShNew hs = some (.inr (iZ 0, Sh_s_strokeCount (Sh_s_st ShNew 0 (mup (mup (S_numbers (Sh_st ShNew 0)) (3 * 0) 5 5 5) (3 * (0 + 1)) 40 20 5, iZ (0 + 1 + 1), allK (0 + 1 + 1))) (iZ 1), hs')) := by
    unfold fX5_stroke
    simp (disch := omega) only [f1, f2, f3, s1, f4, st1, f5, Sh_cs, f6, st2, fX1_strokeCount, Sum.elim_inl, Sum.elim_inr, d05, gd_true, gd_dec, lt_def, bind_s, isb_0, isb_1, iZ_add, iZ_sub, iZ_mul, iZ_neg, lZ_add, lZ_sub, lZ_mul, iZ_lt, iZ_le, iZ_eq, lZ_lt, lZ_le, lZ_eq, iZ_64, iZ_N, inb_Z, if_pos, if_neg, ↓reduceIte, Bool.true_eq_false, Bool.false_eq_true, li7, li8, li12, li14, li34, li35, li36, li40, li101, li0, li1, li2, li3, li4, li5, li6, li9, li10, li16, li20, li23, li24, li25, li31, li33, li44, li48, li49, li50, li51, li57, li59, li60, li63, li69, li70, li71, li72, li74, li99, li100, li119, li126, li250, li296, li297, li298, li299, li300, li301, li302, li303, li606, li1515, li1818, li16384, li1048576, li2147483647, li10000, lj0, lj1, lj10000] <;> rfl
  have R0 : Row (S_numbers (Sh_st ShNew 0)) 0 (fun _ => 0) := fun j j0 j1 => by omega
  have R1 := R0.add (Int.le_refl 0) 5 5 5
  have R2 := R1.add (show (0 : Int) ≤ 0 + 1 by omega) 40 20 5
  refine ⟨_, hs', ?_, ⟨⟨rfl, MK_all (by omega), N0_ok⟩, ⟨_, st1 _, R2⟩, fun i i0 i1 => v0_ok i0 i1⟩, H'⟩
  unfold fL_stroke
  rw [e, bind_s]
  rfl
end LF1
