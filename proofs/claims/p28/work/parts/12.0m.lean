section
/-! stroke texts: what is read so far -/
theorem setN_at {P : Int → Int} {c a b w j : Int} : setN P c a b w j = if j = 3 * c then a else if j = 3 * c + 1 then b else if j = 3 * c + 2 then w else P j := rfl
theorem Row.add {m : Nat → Int32} {c : Int} {P : Int → Int} (h : Row m c P) (c0 : 0 ≤ c) (a b w : Int) : Row (mup m (3 * c) a b w) (c + 1) (setN P c a b w) := fun j j0 j1 => by
  rw [mup_at (by omega) j0, setN_at]
  by_cases e0 : j = 3 * c
  · rw [if_pos e0, if_pos e0]
  · by_cases e1 : j = 3 * c + 1
    · rw [if_neg e0, if_neg e0, if_pos e1, if_pos e1]
    · by_cases e2 : j = 3 * c + 2
      · rw [if_neg e0, if_neg e0, if_neg e1, if_neg e1, if_pos e2, if_pos e2]
      · rw [if_neg e0, if_neg e0, if_neg e1, if_neg e1, if_neg e2, if_neg e2]
        exact h j j0 (by omega)
theorem Crd.add {c : Int} {P : Int → Int} (h : Crd c P) {a b w : Int} (ha : 0 ≤ a ∧ a ≤ 99) (hb : 0 ≤ b ∧ b ≤ 99) (hw : 1 ≤ w ∧ w ≤ 20) : Crd (c + 1) (setN P c a b w) := fun k k0 k1 => by
  by_cases e : k = c
  · subst e
    rw [setN_at, setN_at, setN_at, if_pos rfl, if_neg (by omega), if_pos rfl, if_neg (by omega), if_neg (by omega), if_pos rfl]
    exact ⟨ha, hb, hw⟩
  · rw [setN_at, setN_at, setN_at, if_neg (by omega), if_neg (by omega), if_neg (by omega), if_neg (by omega), if_neg (by omega), if_neg (by omega), if_neg (by omega), if_neg (by omega), if_neg (by omega)]
    exact h k k0 (by omega)
section M1
variable {cd m : Nat → Int32} {pt dg nm x y c t : Int} {P : Int → Int} {L : Int32}
theorem c_addP {K : Int32} {a b w : Int} (c0 : 0 ≤ c) (c1 : c < 24) : fX3_addPoint (iZ a) (iZ b) (iZ w) (m, iZ c, K) = some (mup m (3 * c) a b w, iZ (c + 1), allK (c + 1)) := by
  have hp := c_putP (m := m) (s := iZ c) (K := K) (k := c) (x := a) (y := b) (w := w) c0 c1
  have hk := c_keepAll (m := mup m (3 * c) a b w) (n := c + 1) (K := K)
  unfold fX3_addPoint
  simp (disch := omega) only [S_size, S_s_size, hp, hk, gd_true, gd_dec, lt_def, bind_s, isb_0, isb_1, iZ_add, iZ_sub, iZ_mul, iZ_neg, lZ_add, lZ_sub, lZ_mul, iZ_lt, iZ_le, iZ_eq, lZ_lt, lZ_le, lZ_eq, iZ_64, iZ_N, inb_Z, if_pos, if_neg, ↓reduceIte, Bool.true_eq_false, Bool.false_eq_true, li0, li1, li2, li3, li4, li5, li6, li9, li10, li16, li20, li23, li24, li25, li31, li33, li44, li48, li49, li50, li51, li57, li59, li60, li63, li69, li70, li71, li72, li74, li99, li100, li119, li126, li250, li296, li297, li298, li299, li300, li301, li302, li303, li606, li1515, li1818, li16384, li1048576, li2147483647, li10000, lj0, lj1, lj10000]
end M1
end
