section
/-! the whole: strokes change -/
theorem Sh_same (u : ShS) (i : Nat) (v : SS) : Sh_st (Sh_s_st u i v) i = v := if_pos rfl
theorem Sh_ss (u : ShS) (i : Nat) (v w : SS) : Sh_s_st (Sh_s_st u i v) i w = Sh_s_st u i w := by
  unfold Sh_s_st
  refine Prod.ext (funext fun j => ?_) rfl
  show (if j = i then w else if j = i then v else u.1 j) = if j = i then w else u.1 j
  by_cases h : j = i
  · rw [if_pos h, if_pos h]
  · rw [if_neg h, if_neg h, if_neg h]
theorem Sh_cs (u : ShS) (i : Nat) (v w : SS) (c : Int32) : Sh_s_st (Sh_s_strokeCount (Sh_s_st u i v) c) i w = Sh_s_strokeCount (Sh_s_st u i w) c := by
  have := Sh_ss u i v w
  unfold Sh_s_st at this ⊢
  have h1 := congrArg Prod.fst this
  exact Prod.ext h1 rfl
-- rows of points
theorem Crd.set {n : Int} {N : Int → Int} (h : Crd n N) {i a b w : Int} (ha : 0 ≤ a ∧ a ≤ 99) (hb : 0 ≤ b ∧ b ≤ 99) (hw : 1 ≤ w ∧ w ≤ 20) : Crd n (setN N i a b w) := fun k k0 k1 => by
  by_cases e : k = i
  · subst e
    rw [setN_at, setN_at, setN_at, if_pos rfl, if_neg (by omega), if_pos rfl, if_neg (by omega), if_neg (by omega), if_pos rfl]
    exact ⟨ha, hb, hw⟩
  · rw [setN_at, setN_at, setN_at, if_neg (by omega), if_neg (by omega), if_neg (by omega), if_neg (by omega), if_neg (by omega), if_neg (by omega), if_neg (by omega), if_neg (by omega), if_neg (by omega)]
    exact h k k0 k1
theorem Crd.ins {n : Int} {N : Int → Int} (h : Crd n N) {i a b w : Int} (i0 : 0 ≤ i) (i1 : i ≤ n) (ha : 0 ≤ a ∧ a ≤ 99) (hb : 0 ≤ b ∧ b ≤ 99) (hw : 1 ≤ w ∧ w ≤ 20) : Crd (n + 1) (insN N i a b w) := fun k k0 k1 => by
  unfold insN
  by_cases e : k < i
  · rw [if_pos (by omega), if_pos (by omega), if_pos (by omega)]
    exact h k k0 (by omega)
  · by_cases e2 : k = i
    · subst e2
      rw [if_neg (by omega), if_pos rfl, if_neg (by omega), if_neg (by omega), if_pos rfl, if_neg (by omega), if_neg (by omega), if_neg (by omega), if_pos rfl]
      exact ⟨ha, hb, hw⟩
    · rw [if_neg (by omega), if_neg (by omega), if_neg (by omega), if_neg (by omega), if_neg (by omega), if_neg (by omega), if_neg (by omega), if_neg (by omega), if_neg (by omega), if_neg (by omega), if_neg (by omega), if_neg (by omega)]
      rw [show 3 * k - 3 = 3 * (k - 1) by omega, show 3 * k + 1 - 3 = 3 * (k - 1) + 1 by omega, show 3 * k + 2 - 3 = 3 * (k - 1) + 2 by omega]
      exact h (k - 1) (by omega) (by omega)
theorem Crd.del {n : Int} {N : Int → Int} (h : Crd n N) {i : Int} (i0 : 0 ≤ i) : Crd (n - 1) (delN N i) := fun k k0 k1 => by
  unfold delN
  by_cases e : k < i
  · rw [if_pos (by omega), if_pos (by omega), if_pos (by omega)]
    exact h k k0 (by omega)
  · rw [if_neg (by omega), if_neg (by omega), if_neg (by omega)]
    rw [show 3 * k + 3 = 3 * (k + 1) by omega, show 3 * k + 1 + 3 = 3 * (k + 1) + 1 by omega, show 3 * k + 2 + 3 = 3 * (k + 1) + 2 by omega]
    exact h (k + 1) (by omega) (by omega)
theorem Row.set {m : Nat → Int32} {n : Int} {N : Int → Int} (h : Row m n N) {i : Int} (i0 : 0 ≤ i) (a b w : Int) : Row (mup m (3 * i) a b w) n (setN N i a b w) := fun j j0 j1 => by
  rw [mup_at (by omega) j0, setN_at]
  by_cases e0 : j = 3 * i
  · rw [if_pos e0, if_pos e0]
  · by_cases e1 : j = 3 * i + 1
    · rw [if_neg e0, if_neg e0, if_pos e1, if_pos e1]
    · by_cases e2 : j = 3 * i + 2
      · rw [if_neg e0, if_neg e0, if_neg e1, if_neg e1, if_pos e2, if_pos e2]
      · rw [if_neg e0, if_neg e0, if_neg e1, if_neg e1, if_neg e2, if_neg e2]
        exact h j j0 j1
def PtsZ (z : Nat → Int32) (s c : Int) (P : Int → Int) : Prop := ∀ j : Int, 0 ≤ j → j < 3 * c → z (74 * s + 2 + j).toNat = iZ (P j)
theorem PtsZ.set {z : Nat → Int32} {s n : Int} {N : Int → Int} (h : PtsZ z s n N) {i : Int} (s0 : 0 ≤ s) (i0 : 0 ≤ i) (a b w : Int) : PtsZ (mup z (74 * s + 2 + 3 * i) a b w) s n (setN N i a b w) := fun j j0 j1 => by
  rw [mup_at (by omega) (by omega), setN_at]
  by_cases e0 : j = 3 * i
  · rw [if_pos e0, if_pos (by omega)]
  · by_cases e1 : j = 3 * i + 1
    · rw [if_neg e0, if_neg (by omega), if_pos e1, if_pos (by omega)]
    · by_cases e2 : j = 3 * i + 2
      · rw [if_neg e0, if_neg (by omega), if_neg e1, if_neg (by omega), if_pos e2, if_pos (by omega)]
      · rw [if_neg e0, if_neg (by omega), if_neg e1, if_neg (by omega), if_neg e2, if_neg (by omega)]
        exact h j j0 j1
theorem PtsZ.add {z : Nat → Int32} {s c : Int} {P : Int → Int} (h : PtsZ z s c P) (s0 : 0 ≤ s) (c0 : 0 ≤ c) (a b w : Int) : PtsZ (mup z (74 * s + 2 + 3 * c) a b w) s (c + 1) (setN P c a b w) := fun j j0 j1 => by
  rw [mup_at (by omega) (by omega), setN_at]
  by_cases e0 : j = 3 * c
  · rw [if_pos e0, if_pos (by omega)]
  · by_cases e1 : j = 3 * c + 1
    · rw [if_neg e0, if_neg (by omega), if_pos e1, if_pos (by omega)]
    · by_cases e2 : j = 3 * c + 2
      · rw [if_neg e0, if_neg (by omega), if_neg e1, if_neg (by omega), if_pos e2, if_pos (by omega)]
      · rw [if_neg e0, if_neg (by omega), if_neg e1, if_neg (by omega), if_neg e2, if_neg (by omega)]
        exact h j j0 (by omega)
-- a stroke more
theorem c_open {u : ShS} {sc : Int} (h2 : Sh_strokeCount u = iZ sc) (s0 : 0 ≤ sc) (s1 : sc < 4) : fX1_openStroke u = some (sc.toNat, Sh_s_strokeCount (Sh_s_st u sc.toNat (S_numbers (Sh_st u sc.toNat), iZ 0, iZ 0)) (iZ (sc + 1))) := by
  have e1 := c_at (u := u) s0 s1
  have e2 : fX3_removeAll (Sh_st u sc.toNat) = some (S_numbers (Sh_st u sc.toNat), iZ 0, iZ 0) := rfl
  have e3 : ∀ x : SS, Sh_strokeCount (Sh_s_st u sc.toNat x) = iZ sc := fun x => h2
  unfold fX1_openStroke
  simp (disch := omega) only [h2, e1, e2, e3, Sum.elim_inl, Sum.elim_inr, bi_tr, bi_fa, Sh_same, Sh_ss, gd_true, gd_dec, lt_def, bind_s, isb_0, isb_1, iZ_add, iZ_sub, iZ_mul, iZ_neg, lZ_add, lZ_sub, lZ_mul, iZ_lt, iZ_le, iZ_eq, lZ_lt, lZ_le, lZ_eq, iZ_64, iZ_N, inb_Z, if_pos, if_neg, ↓reduceIte, Bool.true_eq_false, Bool.false_eq_true, li0, li1, li2, li3, li4, li5, li6, li9, li10, li16, li20, li23, li24, li25, li31, li33, li44, li48, li49, li50, li51, li57, li59, li60, li63, li69, li70, li71, li72, li74, li99, li100, li119, li126, li250, li296, li297, li298, li299, li300, li301, li302, li303, li606, li1515, li1818, li16384, li1048576, li2147483647, li10000, lj0, lj1, lj10000]
section Q
variable {g : kG} {D : Nat → Nat → Nat} {R : kAd} {u : ShS} {ps : PS} {hs : HS} {ns : NS}
end Q
end
