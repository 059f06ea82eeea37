/-! strokes: points and distances -/
def Row (m : Nat → Int32) (n : Int) (N : Int → Int) : Prop := ∀ j : Int, 0 ≤ j → j < 3 * n → m j.toNat = iZ (N j)
def Crd (n : Int) (N : Int → Int) : Prop := ∀ k : Int, 0 ≤ k → k < n → (0 ≤ N (3 * k) ∧ N (3 * k) ≤ 99) ∧ (0 ≤ N (3 * k + 1) ∧ N (3 * k + 1) ≤ 99) ∧ 1 ≤ N (3 * k + 2) ∧ N (3 * k + 2) ≤ 20
def RM (z : Nat → Int32) (b n : Int) (N : Int → Int) (K : Int32) : Prop := z b.toNat = iZ n ∧ z (b + 1).toNat = K ∧ ∀ j : Int, 0 ≤ j → j < 3 * n → z (b + 2 + j).toNat = iZ (N j)
theorem mbd {a b : Int} (A B C : Nat) (h1 : a.natAbs ≤ A) (h2 : b.natAbs ≤ B) (h3 : A * B = C) : (a * b).natAbs ≤ C := by
  rw [Int.natAbs_mul, ← h3]
  exact Nat.mul_le_mul h1 h2
theorem sq_nn (a : Int) : 0 ≤ a * a := by
  rw [← Int.natAbs_mul_self]
  exact Int.natCast_nonneg _
theorem Crd.df {n : Int} {N : Int → Int} (h : Crd n N) {a b : Int} (a0 : 0 ≤ a) (a1 : a < n) (b0 : 0 ≤ b) (b1 : b < n) : (N (3 * b) - N (3 * a)).natAbs ≤ 99 ∧ (N (3 * b + 1) - N (3 * a + 1)).natAbs ≤ 99 := by
  have := h a a0 a1
  have := h b b0 b1
  omega
def dX (N : Int → Int) (a b : Int) : Int := N (3 * b) - N (3 * a)
def dY (N : Int → Int) (a b : Int) : Int := N (3 * b + 1) - N (3 * a + 1)
def sqD (N : Int → Int) (a b : Int) : Int := dX N a b * dX N a b + dY N a b * dY N a b
def alD (N : Int → Int) (k f t : Int) : Int := dX N f k * dX N f t + dY N f k * dY N f t
def crD (N : Int → Int) (k f t : Int) : Int := dX N f k * dY N f t - dY N f k * dX N f t
def bkD (N : Int → Int) (k f t : Int) : Int := (dX N f k - dX N f t) * (dX N f k - dX N f t) + (dY N f k - dY N f t) * (dY N f k - dY N f t)
def scD (N : Int → Int) (f t : Int) : Int := if 1 < sqD N f t then sqD N f t else 1
def spD (N : Int → Int) (k f t : Int) : Int := if 0 < alD N k f t then (if alD N k f t < sqD N f t then crD N k f t * crD N k f t else bkD N k f t * sqD N f t) else sqD N f k * scD N f t
def abD (N : Int → Int) (k f t : Int) : Int := if 0 < alD N k f t then (if alD N k f t < sqD N f t then crD N k f t * crD N k f t else sqD N t k) else sqD N f k
def beD (N : Int → Int) (k f t : Int) : Int := if 0 < alD N k f t then (if alD N k f t < sqD N f t then sqD N f t else 1) else 1
section B1
variable {n : Int} {N : Int → Int}
theorem dX_b (h : Crd n N) {a b : Int} (a0 : 0 ≤ a) (a1 : a < n) (b0 : 0 ≤ b) (b1 : b < n) : (dX N a b).natAbs ≤ 99 := (h.df a0 a1 b0 b1).1
theorem dY_b (h : Crd n N) {a b : Int} (a0 : 0 ≤ a) (a1 : a < n) (b0 : 0 ≤ b) (b1 : b < n) : (dY N a b).natAbs ≤ 99 := (h.df a0 a1 b0 b1).2
theorem sqD_b (h : Crd n N) {a b : Int} (a0 : 0 ≤ a) (a1 : a < n) (b0 : 0 ≤ b) (b1 : b < n) : 0 ≤ sqD N a b ∧ sqD N a b ≤ 19602 := by
  have h1 := mbd 99 99 9801 (dX_b h a0 a1 b0 b1) (dX_b h a0 a1 b0 b1) rfl
  have h2 := mbd 99 99 9801 (dY_b h a0 a1 b0 b1) (dY_b h a0 a1 b0 b1) rfl
  have h3 := sq_nn (dX N a b)
  have h4 := sq_nn (dY N a b)
  unfold sqD
  omega
theorem alD_b (h : Crd n N) {k f t : Int} (k0 : 0 ≤ k) (k1 : k < n) (f0 : 0 ≤ f) (f1 : f < n) (t0 : 0 ≤ t) (t1 : t < n) : (alD N k f t).natAbs ≤ 19602 := by
  have h1 := mbd 99 99 9801 (dX_b h f0 f1 k0 k1) (dX_b h f0 f1 t0 t1) rfl
  have h2 := mbd 99 99 9801 (dY_b h f0 f1 k0 k1) (dY_b h f0 f1 t0 t1) rfl
  unfold alD
  omega
theorem crD_b (h : Crd n N) {k f t : Int} (k0 : 0 ≤ k) (k1 : k < n) (f0 : 0 ≤ f) (f1 : f < n) (t0 : 0 ≤ t) (t1 : t < n) : (crD N k f t).natAbs ≤ 19602 := by
  have h1 := mbd 99 99 9801 (dX_b h f0 f1 k0 k1) (dY_b h f0 f1 t0 t1) rfl
  have h2 := mbd 99 99 9801 (dY_b h f0 f1 k0 k1) (dX_b h f0 f1 t0 t1) rfl
  unfold crD
  omega
theorem bkD_eq (k f t : Int) : bkD N k f t = sqD N t k := by
  unfold bkD sqD dX dY
  have e1 : N (3 * k) - N (3 * f) - (N (3 * t) - N (3 * f)) = N (3 * k) - N (3 * t) := by omega
  have e2 : N (3 * k + 1) - N (3 * f + 1) - (N (3 * t + 1) - N (3 * f + 1)) = N (3 * k + 1) - N (3 * t + 1) := by omega
  rw [e1, e2]
theorem scD_b (h : Crd n N) {f t : Int} (f0 : 0 ≤ f) (f1 : f < n) (t0 : 0 ≤ t) (t1 : t < n) : 1 ≤ scD N f t ∧ scD N f t ≤ 19602 := by
  have := sqD_b h f0 f1 t0 t1
  unfold scD
  split <;> omega
theorem beD_b (h : Crd n N) {k f t : Int} (f0 : 0 ≤ f) (f1 : f < n) (t0 : 0 ≤ t) (t1 : t < n) : 1 ≤ beD N k f t ∧ beD N k f t ≤ 19602 := by
  have := sqD_b h f0 f1 t0 t1
  unfold beD
  split
  · split <;> omega
  · omega
theorem abD_b (h : Crd n N) {k f t : Int} (k0 : 0 ≤ k) (k1 : k < n) (f0 : 0 ≤ f) (f1 : f < n) (t0 : 0 ≤ t) (t1 : t < n) : 0 ≤ abD N k f t ∧ abD N k f t ≤ 384238404 := by
  have h1 := mbd 19602 19602 384238404 (crD_b h k0 k1 f0 f1 t0 t1) (crD_b h k0 k1 f0 f1 t0 t1) rfl
  have h2 := sq_nn (crD N k f t)
  have h3 := sqD_b h f0 f1 k0 k1
  have h4 := sqD_b h t0 t1 k0 k1
  unfold abD
  split
  · split <;> omega
  · omega
theorem sq_zero {a b : Int} (h : a * a + b * b = 0) : a = 0 ∧ b = 0 := by
  have h1 := sq_nn a
  have h2 := sq_nn b
  have h3 : a * a = 0 := by omega
  have h4 : b * b = 0 := by omega
  exact ⟨(Int.mul_eq_zero.mp h3).elim id id, (Int.mul_eq_zero.mp h4).elim id id⟩
/-- the spread is the distance times the scale -/
theorem spD_eq (h : Crd n N) {k f t : Int} (f0 : 0 ≤ f) (f1 : f < n) (t0 : 0 ≤ t) (t1 : t < n) : spD N k f t * beD N k f t = abD N k f t * scD N f t ∧ (beD N k f t = scD N f t ∧ spD N k f t = abD N k f t ∨ beD N k f t = 1 ∧ spD N k f t = abD N k f t * scD N f t) := by
  have hs := sqD_b h f0 f1 t0 t1
  have hz : 0 < alD N k f t → 1 ≤ sqD N f t := by
    intro ha
    rcases Int.lt_or_le 0 (sqD N f t) with q | q
    · omega
    · have e : sqD N f t = 0 := by omega
      obtain ⟨e1, e2⟩ := sq_zero (show dX N f t * dX N f t + dY N f t * dY N f t = 0 from e)
      have : alD N k f t = 0 := by
        unfold alD
        rw [e1, e2, Int.mul_zero, Int.mul_zero]
        rfl
      omega
  have key : beD N k f t = scD N f t ∧ spD N k f t = abD N k f t ∨ beD N k f t = 1 ∧ spD N k f t = abD N k f t * scD N f t := by
    unfold spD abD beD
    by_cases ha : 0 < alD N k f t
    · have h1 := hz ha
      have hsc : scD N f t = sqD N f t := by
        unfold scD
        split <;> omega
      rw [if_pos ha, if_pos ha, if_pos ha]
      by_cases hb : alD N k f t < sqD N f t
      · rw [if_pos hb, if_pos hb, if_pos hb]
        exact Or.inl ⟨hsc.symm, rfl⟩
      · rw [if_neg hb, if_neg hb, if_neg hb, bkD_eq, hsc]
        exact Or.inr ⟨rfl, rfl⟩
    · rw [if_neg ha, if_neg ha, if_neg ha]
      exact Or.inr ⟨rfl, rfl⟩
  refine ⟨?_, key⟩
  rcases key with ⟨e1, e2⟩ | ⟨e1, e2⟩
  · rw [e1, e2]
  · rw [e1, e2, Int.mul_one]
end B1
section B2
variable {m : Nat → Int32} {n : Int} {N : Int → Int} {s K : Int32}
theorem c_x (hm : Row m n N) (hn : n ≤ 24) {k : Int} (h0 : 0 ≤ k) (h1 : k < n) : fX3_x (iZ k) (m, s, K) = some (iZ (N (3 * k))) := by
  have hm : ∀ j : Int, 0 ≤ j → j < 3 * n → m j.toNat = iZ (N j) := hm
  unfold fX3_x
  simp (disch := omega) only [S_numbers, hm, gd_true, gd_dec, lt_def, bind_s, isb_0, isb_1, iZ_add, iZ_sub, iZ_mul, iZ_neg, lZ_add, lZ_sub, lZ_mul, iZ_lt, iZ_le, iZ_eq, lZ_lt, lZ_le, lZ_eq, iZ_64, iZ_N, inb_Z, if_pos, if_neg, ↓reduceIte, Bool.true_eq_false, Bool.false_eq_true, li0, li1, li2, li3, li4, li5, li6, li9, li10, li16, li20, li23, li24, li25, li31, li33, li44, li48, li49, li50, li51, li57, li59, li60, li63, li69, li70, li71, li72, li74, li99, li100, li119, li126, li250, li296, li297, li298, li299, li300, li301, li302, li303, li606, li1515, li1818, li16384, li1048576, li2147483647, li10000, lj0, lj1, lj10000]
theorem c_y (hm : Row m n N) (hn : n ≤ 24) {k : Int} (h0 : 0 ≤ k) (h1 : k < n) : fX3_y (iZ k) (m, s, K) = some (iZ (N (3 * k + 1))) := by
  have hm : ∀ j : Int, 0 ≤ j → j < 3 * n → m j.toNat = iZ (N j) := hm
  unfold fX3_y
  simp (disch := omega) only [S_numbers, hm, gd_true, gd_dec, lt_def, bind_s, isb_0, isb_1, iZ_add, iZ_sub, iZ_mul, iZ_neg, lZ_add, lZ_sub, lZ_mul, iZ_lt, iZ_le, iZ_eq, lZ_lt, lZ_le, lZ_eq, iZ_64, iZ_N, inb_Z, if_pos, if_neg, ↓reduceIte, Bool.true_eq_false, Bool.false_eq_true, li0, li1, li2, li3, li4, li5, li6, li9, li10, li16, li20, li23, li24, li25, li31, li33, li44, li48, li49, li50, li51, li57, li59, li60, li63, li69, li70, li71, li72, li74, li99, li100, li119, li126, li250, li296, li297, li298, li299, li300, li301, li302, li303, li606, li1515, li1818, li16384, li1048576, li2147483647, li10000, lj0, lj1, lj10000]
theorem c_w (hm : Row m n N) (hn : n ≤ 24) {k : Int} (h0 : 0 ≤ k) (h1 : k < n) : fX3_width (iZ k) (m, s, K) = some (iZ (N (3 * k + 2))) := by
  have hm : ∀ j : Int, 0 ≤ j → j < 3 * n → m j.toNat = iZ (N j) := hm
  unfold fX3_width
  simp (disch := omega) only [S_numbers, hm, gd_true, gd_dec, lt_def, bind_s, isb_0, isb_1, iZ_add, iZ_sub, iZ_mul, iZ_neg, lZ_add, lZ_sub, lZ_mul, iZ_lt, iZ_le, iZ_eq, lZ_lt, lZ_le, lZ_eq, iZ_64, iZ_N, inb_Z, if_pos, if_neg, ↓reduceIte, Bool.true_eq_false, Bool.false_eq_true, li0, li1, li2, li3, li4, li5, li6, li9, li10, li16, li20, li23, li24, li25, li31, li33, li44, li48, li49, li50, li51, li57, li59, li60, li63, li69, li70, li71, li72, li74, li99, li100, li119, li126, li250, li296, li297, li298, li299, li300, li301, li302, li303, li606, li1515, li1818, li16384, li1048576, li2147483647, li10000, lj0, lj1, lj10000]
theorem c_sq (hm : Row m n N) (hc : Crd n N) (hn : n ≤ 24) {a b : Int} (a0 : 0 ≤ a) (a1 : a < n) (b0 : 0 ≤ b) (b1 : b < n) : fX3_square (iZ a) (iZ b) (m, s, K) = some (lZ (sqD N a b)) := by
  have ex : ∀ a b : Int, N (3 * b) - N (3 * a) = dX N a b := fun _ _ => rfl
  have ey : ∀ a b : Int, N (3 * b + 1) - N (3 * a + 1) = dY N a b := fun _ _ => rfl
  have d1 := dX_b hc a0 a1 b0 b1
  have d2 := dY_b hc a0 a1 b0 b1
  unfold fX3_square
  simp (disch := omega) only [c_x hm hn a0 a1, c_x hm hn b0 b1, c_y hm hn a0 a1, c_y hm hn b0 b1, ex, ey, gd_true, gd_dec, lt_def, bind_s, isb_0, isb_1, iZ_add, iZ_sub, iZ_mul, iZ_neg, lZ_add, lZ_sub, lZ_mul, iZ_lt, iZ_le, iZ_eq, lZ_lt, lZ_le, lZ_eq, iZ_64, iZ_N, inb_Z, if_pos, if_neg, ↓reduceIte, Bool.true_eq_false, Bool.false_eq_true, li0, li1, li2, li3, li4, li5, li6, li9, li10, li16, li20, li23, li24, li25, li31, li33, li44, li48, li49, li50, li51, li57, li59, li60, li63, li69, li70, li71, li72, li74, li99, li100, li119, li126, li250, li296, li297, li298, li299, li300, li301, li302, li303, li606, li1515, li1818, li16384, li1048576, li2147483647, li10000, lj0, lj1, lj10000]
  rfl
theorem c_spread (hm : Row m n N) (hc : Crd n N) (hn : n ≤ 24) {k f t : Int} (k0 : 0 ≤ k) (k1 : k < n) (f0 : 0 ≤ f) (f1 : f < n) (t0 : 0 ≤ t) (t1 : t < n) : fX3_spread (iZ k) (iZ f) (iZ t) (m, s, K) = some (lZ (spD N k f t)) := by
  have ex : ∀ a b : Int, N (3 * b) - N (3 * a) = dX N a b := fun _ _ => rfl
  have ey : ∀ a b : Int, N (3 * b + 1) - N (3 * a + 1) = dY N a b := fun _ _ => rfl
  have d1 := dX_b hc f0 f1 k0 k1
  have d2 := dY_b hc f0 f1 k0 k1
  have d3 := dX_b hc f0 f1 t0 t1
  have d4 := dY_b hc f0 f1 t0 t1
  have e1 : dX N f k * dX N f t + dY N f k * dY N f t = alD N k f t := rfl
  have e2 : dX N f t * dX N f t + dY N f t * dY N f t = sqD N f t := rfl
  have e3 : dX N f k * dY N f t - dY N f k * dX N f t = crD N k f t := rfl
  have e4 : dX N f k * dX N f k + dY N f k * dY N f k = sqD N f k := rfl
  have e5 : (dX N f k - dX N f t) * (dX N f k - dX N f t) + (dY N f k - dY N f t) * (dY N f k - dY N f t) = bkD N k f t := rfl
  have b1 := alD_b hc k0 k1 f0 f1 t0 t1
  have b2 := sqD_b hc f0 f1 t0 t1
  unfold fX3_spread
  simp (disch := omega) only [c_x hm hn k0 k1, c_x hm hn f0 f1, c_x hm hn t0 t1, c_y hm hn k0 k1, c_y hm hn f0 f1, c_y hm hn t0 t1, ex, ey, e1, e2, e3, e4, e5, gd_true, gd_dec, lt_def, bind_s, isb_0, isb_1, iZ_add, iZ_sub, iZ_mul, iZ_neg, lZ_add, lZ_sub, lZ_mul, iZ_lt, iZ_le, iZ_eq, lZ_lt, lZ_le, lZ_eq, iZ_64, iZ_N, inb_Z, if_pos, if_neg, ↓reduceIte, Bool.true_eq_false, Bool.false_eq_true, li0, li1, li2, li3, li4, li5, li6, li9, li10, li16, li20, li23, li24, li25, li31, li33, li44, li48, li49, li50, li51, li57, li59, li60, li63, li69, li70, li71, li72, li74, li99, li100, li119, li126, li250, li296, li297, li298, li299, li300, li301, li302, li303, li606, li1515, li1818, li16384, li1048576, li2147483647, li10000, lj0, lj1, lj10000]
  unfold spD scD
  by_cases ha : 0 < alD N k f t
  · rw [if_pos ha, if_pos ha]
    by_cases hb : alD N k f t < sqD N f t
    · rw [if_pos hb, if_pos hb]
    · rw [if_neg hb, if_neg hb]
  · rw [if_neg ha, if_neg ha]
    by_cases hb : 1 < sqD N f t
    · rw [if_pos hb, if_pos hb, lZ_mul]
    · rw [if_neg hb, if_neg hb, lZ_mul]
theorem c_scale (hm : Row m n N) (hc : Crd n N) (hn : n ≤ 24) {f t : Int} (f0 : 0 ≤ f) (f1 : f < n) (t0 : 0 ≤ t) (t1 : t < n) : fX3_scale (iZ f) (iZ t) (m, s, K) = some (lZ (scD N f t)) := by
  have b2 := sqD_b hc f0 f1 t0 t1
  unfold fX3_scale
  simp (disch := omega) only [c_sq hm hc hn f0 f1 t0 t1, gd_true, gd_dec, lt_def, bind_s, isb_0, isb_1, iZ_add, iZ_sub, iZ_mul, iZ_neg, lZ_add, lZ_sub, lZ_mul, iZ_lt, iZ_le, iZ_eq, lZ_lt, lZ_le, lZ_eq, iZ_64, iZ_N, inb_Z, if_pos, if_neg, ↓reduceIte, Bool.true_eq_false, Bool.false_eq_true, li0, li1, li2, li3, li4, li5, li6, li9, li10, li16, li20, li23, li24, li25, li31, li33, li44, li48, li49, li50, li51, li57, li59, li60, li63, li69, li70, li71, li72, li74, li99, li100, li119, li126, li250, li296, li297, li298, li299, li300, li301, li302, li303, li606, li1515, li1818, li16384, li1048576, li2147483647, li10000, lj0, lj1, lj10000]
  unfold scD
  by_cases hb : 1 < sqD N f t
  · rw [if_pos hb, if_pos hb]
  · rw [if_neg hb, if_neg hb]
end B2
section B3
variable {s n : Int} {N : Int → Int} {K : Int32}
end B3
