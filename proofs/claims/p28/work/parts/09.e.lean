/-! sums, kinds, sets of fixed points, spans, lengths, joins, crossings -/
def suR (f : Int → Int) (a : Int) : Nat → Int
  | 0 => 0
  | m + 1 => suR f a m + f (a + m)
def su (f : Int → Int) (a k : Int) : Int := suR f a (k - a).toNat
theorem su_0 (f : Int → Int) (a : Int) : su f a a = 0 := by
  unfold su
  rw [show (a - a).toNat = 0 by omega]
  rfl
theorem su_e (f : Int → Int) {a k : Int} (h : k ≤ a) : su f a k = 0 := by
  unfold su
  rw [show (k - a).toNat = 0 by omega]
  rfl
theorem su_s (f : Int → Int) {a k : Int} (h : a ≤ k) : su f a (k + 1) = su f a k + f k := by
  unfold su
  rw [show (k + 1 - a).toNat = (k - a).toNat + 1 by omega]
  show suR f a (k - a).toNat + f (a + ((k - a).toNat : Int)) = _
  rw [show a + ((k - a).toNat : Int) = k by omega]
theorem su_skip (f : Int → Int) {a k j : Int} (h : a ≤ k) (h2 : k ≤ j) (hz : ∀ i, k ≤ i → i < j → f i = 0) : su f a j = su f a k := by
  obtain ⟨m, hm⟩ : ∃ m : Nat, (m : Int) = j - k := ⟨(j - k).toNat, by omega⟩
  induction m generalizing j with
  | zero => rw [show j = k by omega]
  | succ m ih =>
    have e : j = (j - 1) + 1 := by omega
    rw [e, su_s f (by omega), hz (j - 1) (by omega) (by omega), Int.add_zero]
    exact ih (by omega) (fun i a b => hz i a (by omega)) (by omega)
theorem su_bd (f : Int → Int) (B : Int) {a k : Int} (h : a ≤ k) (hB : ∀ i, a ≤ i → i < k → 0 ≤ f i ∧ f i ≤ B) : 0 ≤ su f a k ∧ su f a k ≤ B * (k - a) := by
  obtain ⟨m, hm⟩ : ∃ m : Nat, (m : Int) = k - a := ⟨(k - a).toNat, by omega⟩
  induction m generalizing k with
  | zero =>
    rw [show k = a by omega, su_0, show a - a = 0 by omega, Int.mul_zero]
    omega
  | succ m ih =>
    have e : k = (k - 1) + 1 := by omega
    have h1 := ih (k := k - 1) (by omega) (fun i a b => hB i a (by omega)) (by omega)
    have h2 := hB (k - 1) (by omega) (by omega)
    have h3 : B * (k - a) = B * (k - 1 - a) + B := by
      rw [show k - a = (k - 1 - a) + 1 by omega, Int.mul_add, Int.mul_one]
    rw [e, su_s f (by omega), ← e, h3]
    omega
def prD (N : Int → Int) (a k b : Int) : Int := dX N a k * dX N k b + dY N a k * dY N k b
def shB (N : Int → Int) (a k b lim : Int) : Bool := if prD N a k b < 0 then true else if sqD N a k * sqD N k b = 0 then false else if lim * lim * (sqD N a k * sqD N k b) ≤ prD N a k b * prD N a k b * 10000 then false else true
def thB (N : Int → Int) (k w : Int) : Bool := if N (3 * (k - 1) + 2) < N (3 * k + 2) + w then false else if N (3 * (k + 1) + 2) < N (3 * k + 2) + w then false else true
def kdD (N : Int → Int) (n c w k : Int) : Int := if k = 0 then 1 else if k = n - 1 then 1 else (if shB N (k - 1) k (k + 1) c then 2 else 0) + (if thB N k w then 4 else 0)
theorem kdD_b (N : Int → Int) (n c w k : Int) : 0 ≤ kdD N n c w k ∧ kdD N n c w k ≤ 6 := by
  unfold kdD
  repeat' split
  all_goals omega
theorem kdD_0 (N : Int → Int) (n c w : Int) : kdD N n c w 0 = 1 := rfl
theorem kdD_n (N : Int → Int) (n c w : Int) : kdD N n c w (n - 1) = 1 := by
  unfold kdD
  split
  · rfl
  · rw [if_pos rfl]
def opB (x y : Int) : Bool := if 0 ≤ x then (if x ≤ 0 then false else if 0 ≤ y then false else true) else (if 0 < y then true else if x ≤ 0 then false else if 0 ≤ y then false else true)
def sdD (N : Int → Int) (a b i : Int) : Int := dX N a b * dY N a i - dY N a b * dX N a i
def crB (N : Int → Int) (a b c d : Int) : Bool := opB (sdD N a b c) (sdD N a b d) && opB (sdD N c d a) (sdD N c d b)
theorem bi_if (b : Bool) : bi b = if b then 1 else 0 := rfl
theorem op_ev (x y : Int) : ((if 0 ≤ x then (if x ≤ 0 then some (iZ 0) else if 0 ≤ y then some (iZ 0) else some (iZ 1)) else (if 0 < y then some (iZ 1) else if x ≤ 0 then some (iZ 0) else if 0 ≤ y then some (iZ 0) else some (iZ 1))) : Option Int32) = some (iZ (bi (opB x y))) := by
  unfold opB
  by_cases h1 : 0 ≤ x <;> by_cases h2 : x ≤ 0 <;> by_cases h3 : 0 ≤ y <;> by_cases h4 : 0 < y <;> simp [h1, h2, h3, h4, bi]
section E1
variable {m : Nat → Int32} {n : Int} {N : Int → Int} {s K : Int32}
theorem prD_b (h : Crd n N) {a k b : Int} (a0 : 0 ≤ a) (a1 : a < n) (k0 : 0 ≤ k) (k1 : k < n) (b0 : 0 ≤ b) (b1 : b < n) : (prD N a k b).natAbs ≤ 19602 := by
  have h1 := mbd 99 99 9801 (dX_b h a0 a1 k0 k1) (dX_b h k0 k1 b0 b1) rfl
  have h2 := mbd 99 99 9801 (dY_b h a0 a1 k0 k1) (dY_b h k0 k1 b0 b1) rfl
  unfold prD
  omega
theorem sdD_b (h : Crd n N) {a b i : Int} (a0 : 0 ≤ a) (a1 : a < n) (b0 : 0 ≤ b) (b1 : b < n) (i0 : 0 ≤ i) (i1 : i < n) : (sdD N a b i).natAbs ≤ 19602 := by
  have h1 := mbd 99 99 9801 (dX_b h a0 a1 b0 b1) (dY_b h a0 a1 i0 i1) rfl
  have h2 := mbd 99 99 9801 (dY_b h a0 a1 b0 b1) (dX_b h a0 a1 i0 i1) rfl
  unfold sdD
  omega
theorem c_prod (hm : Row m n N) (hc : Crd n N) (hn : n ≤ 24) {a k b : Int} (a0 : 0 ≤ a) (a1 : a < n) (k0 : 0 ≤ k) (k1 : k < n) (b0 : 0 ≤ b) (b1 : b < n) : fX3_productAt (iZ a) (iZ k) (iZ b) (m, s, K) = some (lZ (prD N a k b)) := by
  have ex : ∀ a b : Int, N (3 * b) - N (3 * a) = dX N a b := fun _ _ => rfl
  have ey : ∀ a b : Int, N (3 * b + 1) - N (3 * a + 1) = dY N a b := fun _ _ => rfl
  have d1 := dX_b hc a0 a1 k0 k1
  have d2 := dY_b hc a0 a1 k0 k1
  have d3 := dX_b hc k0 k1 b0 b1
  have d4 := dY_b hc k0 k1 b0 b1
  unfold fX3_productAt
  simp (disch := omega) only [c_x hm hn a0 a1, c_x hm hn b0 b1, c_x hm hn k0 k1, c_y hm hn a0 a1, c_y hm hn b0 b1, c_y hm hn k0 k1, ex, ey, gd_true, gd_dec, lt_def, bind_s, isb_0, isb_1, iZ_add, iZ_sub, iZ_mul, iZ_neg, lZ_add, lZ_sub, lZ_mul, iZ_lt, iZ_le, iZ_eq, lZ_lt, lZ_le, lZ_eq, iZ_64, iZ_N, inb_Z, if_pos, if_neg, ↓reduceIte, Bool.true_eq_false, Bool.false_eq_true, li0, li1, li2, li3, li4, li5, li6, li9, li10, li16, li20, li23, li24, li25, li31, li33, li44, li48, li49, li50, li51, li57, li59, li60, li63, li69, li70, li71, li72, li74, li99, li100, li119, li126, li250, li296, li297, li298, li299, li300, li301, li302, li303, li606, li1515, li1818, li16384, li1048576, li2147483647, li10000, lj0, lj1, lj10000]
  rfl
theorem c_side (hm : Row m n N) (hc : Crd n N) (hn : n ≤ 24) {a b i : Int} (a0 : 0 ≤ a) (a1 : a < n) (b0 : 0 ≤ b) (b1 : b < n) (i0 : 0 ≤ i) (i1 : i < n) : fX3_sideOf (iZ i) (iZ a) (iZ b) (m, s, K) = some (lZ (sdD N a b i)) := by
  have ex : ∀ a b : Int, N (3 * b) - N (3 * a) = dX N a b := fun _ _ => rfl
  have ey : ∀ a b : Int, N (3 * b + 1) - N (3 * a + 1) = dY N a b := fun _ _ => rfl
  have d1 := dX_b hc a0 a1 b0 b1
  have d2 := dY_b hc a0 a1 b0 b1
  have d3 := dX_b hc a0 a1 i0 i1
  have d4 := dY_b hc a0 a1 i0 i1
  unfold fX3_sideOf
  simp (disch := omega) only [c_x hm hn a0 a1, c_x hm hn b0 b1, c_x hm hn i0 i1, c_y hm hn a0 a1, c_y hm hn b0 b1, c_y hm hn i0 i1, ex, ey, gd_true, gd_dec, lt_def, bind_s, isb_0, isb_1, iZ_add, iZ_sub, iZ_mul, iZ_neg, lZ_add, lZ_sub, lZ_mul, iZ_lt, iZ_le, iZ_eq, lZ_lt, lZ_le, lZ_eq, iZ_64, iZ_N, inb_Z, if_pos, if_neg, ↓reduceIte, Bool.true_eq_false, Bool.false_eq_true, li0, li1, li2, li3, li4, li5, li6, li9, li10, li16, li20, li23, li24, li25, li31, li33, li44, li48, li49, li50, li51, li57, li59, li60, li63, li69, li70, li71, li72, li74, li99, li100, li119, li126, li250, li296, li297, li298, li299, li300, li301, li302, li303, li606, li1515, li1818, li16384, li1048576, li2147483647, li10000, lj0, lj1, lj10000]
  rfl
theorem c_sharp (hm : Row m n N) (hc : Crd n N) (hn : n ≤ 24) {a k b lim : Int} (a0 : 0 ≤ a) (a1 : a < n) (k0 : 0 ≤ k) (k1 : k < n) (b0 : 0 ≤ b) (b1 : b < n) (l0 : 0 ≤ lim) (l1 : lim ≤ 100) : fX3_isSharp (iZ a) (iZ k) (iZ b) (iZ lim) (m, s, K) = some (iZ (bi (shB N a k b lim))) := by
  have h1 := prD_b hc a0 a1 k0 k1 b0 b1
  have h2 := sqD_b hc a0 a1 k0 k1
  have h3 := sqD_b hc k0 k1 b0 b1
  have h4 := mbd 19602 19602 384238404 (a := sqD N a k) (b := sqD N k b) (by omega) (by omega) rfl
  have h5 := mbd 19602 19602 384238404 h1 h1 rfl
  have h6 := mbd 100 100 10000 (a := lim) (b := lim) (by omega) (by omega) rfl
  have h7 := mbd 10000 384238404 3842384040000 h6 h4 rfl
  unfold fX3_isSharp
  simp (disch := omega) only [c_prod hm hc hn a0 a1 k0 k1 b0 b1, c_sq hm hc hn a0 a1 k0 k1, c_sq hm hc hn k0 k1 b0 b1, gd_true, gd_dec, lt_def, bind_s, isb_0, isb_1, iZ_add, iZ_sub, iZ_mul, iZ_neg, lZ_add, lZ_sub, lZ_mul, iZ_lt, iZ_le, iZ_eq, lZ_lt, lZ_le, lZ_eq, iZ_64, iZ_N, inb_Z, if_pos, if_neg, ↓reduceIte, Bool.true_eq_false, Bool.false_eq_true, li0, li1, li2, li3, li4, li5, li6, li9, li10, li16, li20, li23, li24, li25, li31, li33, li44, li48, li49, li50, li51, li57, li59, li60, li63, li69, li70, li71, li72, li74, li99, li100, li119, li126, li250, li296, li297, li298, li299, li300, li301, li302, li303, li606, li1515, li1818, li16384, li1048576, li2147483647, li10000, lj0, lj1, lj10000]
  unfold shB
  repeat' split
  all_goals rfl
theorem c_thin (hm : Row m n N) (hc : Crd n N) (hn : n ≤ 24) {k w : Int} (k0 : 0 < k) (k1 : k < n - 1) (w0 : 0 ≤ w) (w1 : w ≤ 100) : fX3_isThin (iZ k) (iZ w) (m, s, K) = some (iZ (bi (thB N k w))) := by
  have h1 := hc k (by omega) (by omega)
  have h2 := hc (k - 1) (by omega) (by omega)
  have h3 := hc (k + 1) (by omega) (by omega)
  unfold fX3_isThin
  simp (disch := omega) only [c_w hm hn (k := k) (by omega) (by omega), c_w hm hn (k := k - 1) (by omega) (by omega), c_w hm hn (k := k + 1) (by omega) (by omega), gd_true, gd_dec, lt_def, bind_s, isb_0, isb_1, iZ_add, iZ_sub, iZ_mul, iZ_neg, lZ_add, lZ_sub, lZ_mul, iZ_lt, iZ_le, iZ_eq, lZ_lt, lZ_le, lZ_eq, iZ_64, iZ_N, inb_Z, if_pos, if_neg, ↓reduceIte, Bool.true_eq_false, Bool.false_eq_true, li0, li1, li2, li3, li4, li5, li6, li9, li10, li16, li20, li23, li24, li25, li31, li33, li44, li48, li49, li50, li51, li57, li59, li60, li63, li69, li70, li71, li72, li74, li99, li100, li119, li126, li250, li296, li297, li298, li299, li300, li301, li302, li303, li606, li1515, li1818, li16384, li1048576, li2147483647, li10000, lj0, lj1, lj10000]
  unfold thB
  repeat' split
  all_goals rfl
theorem c_kind (hm : Row m n N) (hc : Crd n N) (hn : n ≤ 24) {k c w : Int} (k0 : 0 ≤ k) (k1 : k < n) (c0 : 0 ≤ c) (c1 : c ≤ 100) (w0 : 0 ≤ w) (w1 : w ≤ 100) : fX3_kind (iZ k) (iZ c) (iZ w) (m, iZ n, K) = some (iZ (kdD N n c w k)) := by
  unfold fX3_kind fX3_isEnd kdD
  by_cases e0 : k = 0
  · subst e0
    simp (disch := omega) only [S_size, gd_true, gd_dec, lt_def, bind_s, isb_0, isb_1, iZ_add, iZ_sub, iZ_mul, iZ_neg, lZ_add, lZ_sub, lZ_mul, iZ_lt, iZ_le, iZ_eq, lZ_lt, lZ_le, lZ_eq, iZ_64, iZ_N, inb_Z, if_pos, if_neg, ↓reduceIte, Bool.true_eq_false, Bool.false_eq_true, li0, li1, li2, li3, li4, li5, li6, li9, li10, li16, li20, li23, li24, li25, li31, li33, li44, li48, li49, li50, li51, li57, li59, li60, li63, li69, li70, li71, li72, li74, li99, li100, li119, li126, li250, li296, li297, li298, li299, li300, li301, li302, li303, li606, li1515, li1818, li16384, li1048576, li2147483647, li10000, lj0, lj1, lj10000]
  · by_cases e1 : k = n - 1
    · subst e1
      simp (disch := omega) only [S_size, gd_true, gd_dec, lt_def, bind_s, isb_0, isb_1, iZ_add, iZ_sub, iZ_mul, iZ_neg, lZ_add, lZ_sub, lZ_mul, iZ_lt, iZ_le, iZ_eq, lZ_lt, lZ_le, lZ_eq, iZ_64, iZ_N, inb_Z, if_pos, if_neg, ↓reduceIte, Bool.true_eq_false, Bool.false_eq_true, li0, li1, li2, li3, li4, li5, li6, li9, li10, li16, li20, li23, li24, li25, li31, li33, li44, li48, li49, li50, li51, li57, li59, li60, li63, li69, li70, li71, li72, li74, li99, li100, li119, li126, li250, li296, li297, li298, li299, li300, li301, li302, li303, li606, li1515, li1818, li16384, li1048576, li2147483647, li10000, lj0, lj1, lj10000]
    · simp (disch := omega) only [S_size, c_sharp hm hc hn (a := k - 1) (k := k) (b := k + 1) (by omega) (by omega) k0 k1 (by omega) (by omega) c0 c1, c_thin hm hc hn (k := k) (by omega) (by omega) w0 w1, bi_z, gd_true, gd_dec, lt_def, bind_s, isb_0, isb_1, iZ_add, iZ_sub, iZ_mul, iZ_neg, lZ_add, lZ_sub, lZ_mul, iZ_lt, iZ_le, iZ_eq, lZ_lt, lZ_le, lZ_eq, iZ_64, iZ_N, inb_Z, if_pos, if_neg, ↓reduceIte, Bool.true_eq_false, Bool.false_eq_true, li0, li1, li2, li3, li4, li5, li6, li9, li10, li16, li20, li23, li24, li25, li31, li33, li44, li48, li49, li50, li51, li57, li59, li60, li63, li69, li70, li71, li72, li74, li99, li100, li119, li126, li250, li296, li297, li298, li299, li300, li301, li302, li303, li606, li1515, li1818, li16384, li1048576, li2147483647, li10000, lj0, lj1, lj10000]
      cases shB N (k - 1) k (k + 1) c <;> cases thB N k w <;> rfl
end E1
section E2
variable {s n : Int} {N : Int → Int} {K : Int32}
end E2
-- sets of fixed points
def IsFx (n : Int) (f : Int → Int) (F : Int32) : Prop := ∀ j : Int, 0 ≤ j → hb F j = decide (j < n ∧ f j ≠ 0)
theorem IsFx.uniq {n : Int} {f : Int → Int} {F G : Int32} (h : IsFx n f F) (h2 : IsFx n f G) : F = G := hb_ext (fun j j0 _ => by rw [h j j0, h2 j j0])
theorem IsFx.z (f : Int → Int) : IsFx 0 f (iZ 0) := by
  intro j j0
  have : hb (iZ 0) j = false := hb_0 j
  rw [this]
  exact (decide_eq_false (by omega)).symm
theorem IsFx.same {k : Int} {f : Int → Int} {G : Int32} (h : IsFx k f G) (e : f k = 0) : IsFx (k + 1) f G := by
  intro j j0
  rw [h j j0]
  apply decide_eq_decide.mpr
  constructor
  · rintro ⟨a, b⟩
    exact ⟨by omega, b⟩
  · rintro ⟨a, b⟩
    have : j ≠ k := fun z => b (by rw [z]; exact e)
    exact ⟨by omega, b⟩
theorem IsFx.add {k : Int} {f : Int → Int} {G : Int32} (h : IsFx k f G) (k0 : 0 ≤ k) (k1 : k < 32) (e : f k ≠ 0) : IsFx (k + 1) f (G ||| (iZ 1 <<< (iZ k &&& iZ 31))) := by
  intro j j0
  rw [hb_or k0 k1 j0, h j j0, ← Bool.decide_or]
  apply decide_eq_decide.mpr
  constructor
  · rintro (⟨a, b⟩ | a)
    · exact ⟨by omega, b⟩
    · exact ⟨by omega, by rw [a]; exact e⟩
  · rintro ⟨a, b⟩
    by_cases z : j = k
    · exact Or.inr z
    · exact Or.inl ⟨by omega, b⟩
theorem or_0 (G : Int32) : G ||| iZ 0 = G := by
  show G ||| 0 = G
  exact Int32.or_zero
theorem fx_MK {n : Int} {f : Int → Int} {F : Int32} (h : IsFx n f F) (hn : 2 ≤ n ∧ n ≤ 24) (h0 : f 0 ≠ 0) (h1 : f (n - 1) ≠ 0) : MK n F := by
  refine ⟨hn, ?_, ?_, ?_⟩
  · rw [h 0 (by decide)]
    exact decide_eq_true ⟨by omega, h0⟩
  · rw [h (n - 1) (by omega)]
    exact decide_eq_true ⟨by omega, h1⟩
  · intro j j0 q
    rw [h j j0] at q
    exact (of_decide_eq_true q).1
section E3
variable {us : ShS} {i : Nat} {m : Nat → Int32} {n : Int} {N : Int → Int} {K : Int32} {c w : Int}
theorem c_fixed (hi : i < 5) (hs : Sh_st us i = (m, iZ n, K)) (hC : fX1_value (iZ 1) us = some (iZ c)) (hW : fX1_value (iZ 2) us = some (iZ w)) (hm : Row m n N) (hc : Crd n N) (hn : 0 ≤ n ∧ n ≤ 24) (c0 : 0 ≤ c) (c1 : c ≤ 100) (w0 : 0 ≤ w) (w1 : w ≤ 100) : ∃ F, IsFx n (kdD N n c w) F ∧ fX1_fixedPoints i us = some F := by
  obtain ⟨r, h1, h2⟩ := lp_up (f := bX1_fixedPoints_4 i us) (fun k st => ∃ G, st = (G, iZ k) ∧ IsFx k (kdD N n c w) G) (fun r => IsFx n (kdD N n c w) r) (i := 0) (n := n) (by omega) (by
    rintro k st k0 k1 ⟨G, rfl, hG⟩
    have hb := kdD_b N n c w k
    by_cases e : kdD N n c w k = 0
    · refine ⟨(G, iZ (k + 1)), ?_, G, rfl, hG.same e⟩
      simp (disch := omega) only [bX1_fixedPoints_4, hs, fX3_size, S_size, hC, hW, c_kind hm hc hn.2 k0 k1 c0 c1 w0 w1, gd_true, gd_dec, lt_def, bind_s, isb_0, isb_1, iZ_add, iZ_sub, iZ_mul, iZ_neg, lZ_add, lZ_sub, lZ_mul, iZ_lt, iZ_le, iZ_eq, lZ_lt, lZ_le, lZ_eq, iZ_64, iZ_N, inb_Z, if_pos, if_neg, ↓reduceIte, Bool.true_eq_false, Bool.false_eq_true, li0, li1, li2, li3, li4, li5, li6, li9, li10, li16, li20, li23, li24, li25, li31, li33, li44, li48, li49, li50, li51, li57, li59, li60, li63, li69, li70, li71, li72, li74, li99, li100, li119, li126, li250, li296, li297, li298, li299, li300, li301, li302, li303, li606, li1515, li1818, li16384, li1048576, li2147483647, li10000, lj0, lj1, lj10000]
    · refine ⟨(G ||| (iZ 1 <<< (iZ k &&& iZ 31)), iZ (k + 1)), ?_, _, rfl, hG.add k0 (by omega) e⟩
      simp (disch := omega) only [bX1_fixedPoints_4, hs, fX3_size, S_size, hC, hW, c_kind hm hc hn.2 k0 k1 c0 c1 w0 w1, gd_true, gd_dec, lt_def, bind_s, isb_0, isb_1, iZ_add, iZ_sub, iZ_mul, iZ_neg, lZ_add, lZ_sub, lZ_mul, iZ_lt, iZ_le, iZ_eq, lZ_lt, lZ_le, lZ_eq, iZ_64, iZ_N, inb_Z, if_pos, if_neg, ↓reduceIte, Bool.true_eq_false, Bool.false_eq_true, li0, li1, li2, li3, li4, li5, li6, li9, li10, li16, li20, li23, li24, li25, li31, li33, li44, li48, li49, li50, li51, li57, li59, li60, li63, li69, li70, li71, li72, li74, li99, li100, li119, li126, li250, li296, li297, li298, li299, li300, li301, li302, li303, li606, li1515, li1818, li16384, li1048576, li2147483647, li10000, lj0, lj1, lj10000]) (by
    rintro st ⟨G, rfl, hG⟩
    refine ⟨G, ?_, hG⟩
    simp (disch := omega) only [bX1_fixedPoints_4, hs, fX3_size, S_size, gd_true, gd_dec, lt_def, bind_s, isb_0, isb_1, iZ_add, iZ_sub, iZ_mul, iZ_neg, lZ_add, lZ_sub, lZ_mul, iZ_lt, iZ_le, iZ_eq, lZ_lt, lZ_le, lZ_eq, iZ_64, iZ_N, inb_Z, if_pos, if_neg, ↓reduceIte, Bool.true_eq_false, Bool.false_eq_true, li0, li1, li2, li3, li4, li5, li6, li9, li10, li16, li20, li23, li24, li25, li31, li33, li44, li48, li49, li50, li51, li57, li59, li60, li63, li69, li70, li71, li72, li74, li99, li100, li119, li126, li250, li296, li297, li298, li299, li300, li301, li302, li303, li606, li1515, li1818, li16384, li1048576, li2147483647, li10000, lj0, lj1, lj10000]) (s := (iZ 0, iZ 0)) ⟨iZ 0, rfl, IsFx.z _⟩
  refine ⟨r, h2, ?_⟩
  unfold fX1_fixedPoints lX1_fixedPoints_4
  have e : lp (bX1_fixedPoints_4 i us) (0, 0) = some r := h1
  rw [e]
  rfl
def bitP (f : Int → Int) (b k : Int) : Int := if iZ (f k) &&& iZ b = iZ 0 then 0 else 1
theorem c_countKind (b : Int) (hi : i < 5) (hs : Sh_st us i = (m, iZ n, K)) (hC : fX1_value (iZ 1) us = some (iZ c)) (hW : fX1_value (iZ 2) us = some (iZ w)) (hm : Row m n N) (hc : Crd n N) (hn : 0 ≤ n ∧ n ≤ 24) (c0 : 0 ≤ c) (c1 : c ≤ 100) (w0 : 0 ≤ w) (w1 : w ≤ 100) : fX1_countKind (iZ b) i us = some (iZ (su (bitP (kdD N n c w) b) 0 n)) := by
  unfold fX1_countKind lX1_countKind_5
  have e : lp (bX1_countKind_5 i (iZ b) us) (0, 0) = some (iZ (su (bitP (kdD N n c w) b) 0 n)) := by
    refine lp_fold (fun k => (iZ (su (bitP (kdD N n c w) b) 0 k), iZ k)) (i := 0) (n := n) (by omega) (fun k k0 k1 => ?_) ?_
    · have hb := kdD_b N n c w k
      rw [su_s _ k0]
      by_cases e : iZ (kdD N n c w k) &&& iZ b = iZ 0
      · simp (disch := omega) only [bX1_countKind_5, hs, fX3_size, S_size, hC, hW, c_kind hm hc hn.2 k0 k1 c0 c1 w0 w1, e, bitP, Int.add_zero, gd_true, gd_dec, lt_def, bind_s, isb_0, isb_1, iZ_add, iZ_sub, iZ_mul, iZ_neg, lZ_add, lZ_sub, lZ_mul, iZ_lt, iZ_le, iZ_eq, lZ_lt, lZ_le, lZ_eq, iZ_64, iZ_N, inb_Z, if_pos, if_neg, ↓reduceIte, Bool.true_eq_false, Bool.false_eq_true, li0, li1, li2, li3, li4, li5, li6, li9, li10, li16, li20, li23, li24, li25, li31, li33, li44, li48, li49, li50, li51, li57, li59, li60, li63, li69, li70, li71, li72, li74, li99, li100, li119, li126, li250, li296, li297, li298, li299, li300, li301, li302, li303, li606, li1515, li1818, li16384, li1048576, li2147483647, li10000, lj0, lj1, lj10000]
      · simp (disch := omega) only [bX1_countKind_5, hs, fX3_size, S_size, hC, hW, c_kind hm hc hn.2 k0 k1 c0 c1 w0 w1, e, bitP, gd_true, gd_dec, lt_def, bind_s, isb_0, isb_1, iZ_add, iZ_sub, iZ_mul, iZ_neg, lZ_add, lZ_sub, lZ_mul, iZ_lt, iZ_le, iZ_eq, lZ_lt, lZ_le, lZ_eq, iZ_64, iZ_N, inb_Z, if_pos, if_neg, ↓reduceIte, Bool.true_eq_false, Bool.false_eq_true, li0, li1, li2, li3, li4, li5, li6, li9, li10, li16, li20, li23, li24, li25, li31, li33, li44, li48, li49, li50, li51, li57, li59, li60, li63, li69, li70, li71, li72, li74, li99, li100, li119, li126, li250, li296, li297, li298, li299, li300, li301, li302, li303, li606, li1515, li1818, li16384, li1048576, li2147483647, li10000, lj0, lj1, lj10000]
    · simp (disch := omega) only [bX1_countKind_5, hs, fX3_size, S_size, gd_true, gd_dec, lt_def, bind_s, isb_0, isb_1, iZ_add, iZ_sub, iZ_mul, iZ_neg, lZ_add, lZ_sub, lZ_mul, iZ_lt, iZ_le, iZ_eq, lZ_lt, lZ_le, lZ_eq, iZ_64, iZ_N, inb_Z, if_pos, if_neg, ↓reduceIte, Bool.true_eq_false, Bool.false_eq_true, li0, li1, li2, li3, li4, li5, li6, li9, li10, li16, li20, li23, li24, li25, li31, li33, li44, li48, li49, li50, li51, li57, li59, li60, li63, li69, li70, li71, li72, li74, li99, li100, li119, li126, li250, li296, li297, li298, li299, li300, li301, li302, li303, li606, li1515, li1818, li16384, li1048576, li2147483647, li10000, lj0, lj1, lj10000]
  rw [e]
  rfl
end E3
section E4
variable {s n : Int} {N : Int → Int} {K : Int32} {c w : Int}
end E4
