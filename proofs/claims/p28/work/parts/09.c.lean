/-! roots and hundredths -/
def IsRt (v r : Int) : Prop := 0 ≤ r ∧ r * r ≤ v ∧ v < (r + 1) * (r + 1)
theorem IsRt.uniq {v r q : Int} (h : IsRt v r) (h2 : IsRt v q) : r = q := by
  obtain ⟨a1, a2, a3⟩ := h
  obtain ⟨b1, b2, b3⟩ := h2
  rcases Int.lt_trichotomy r q with h | h | h
  · have : (r + 1) * (r + 1) ≤ q * q := Int.mul_le_mul (by omega) (by omega) (by omega) (by omega)
    omega
  · exact h
  · have : (q + 1) * (q + 1) ≤ r * r := Int.mul_le_mul (by omega) (by omega) (by omega) (by omega)
    omega
noncomputable def rt (v : Int) : Int := Classical.epsilon (fun r => IsRt v r)
theorem rt_of {v r : Int} (h : IsRt v r) : rt v = r := IsRt.uniq (Classical.epsilon_spec (p := fun r => IsRt v r) ⟨r, h⟩) h
def pw : Nat → Int
  | 0 => 1
  | j + 1 => 2 * pw j
theorem pw_pos : ∀ j, 1 ≤ pw j
  | 0 => by decide
  | j + 1 => by have := pw_pos j; unfold pw; omega
theorem sh1 {b : Int} (h0 : 0 ≤ b) (h1 : b < 2147483648) : iZ b >>> (iZ 1 &&& iZ 31) = iZ (b / 2) := by
  rw [← li31, ← li1]
  obtain ⟨m, rfl⟩ := nat_of h0
  have e : ∀ q : Nat, iZ (q : Int) = nI q := fun q => Int32.ofInt_eq_ofNat
  have h2 : ((m : Int) / 2) = ((m / 2 : Nat) : Int) := rfl
  rw [h2, e, e]
  exact pk_shrN (by omega) _ 1 (by decide)
theorem c_rootL {v : Int} (hv : 0 ≤ v) (hv2 : v < 4611686018427387904) : ∀ (j : Nat) (r : Int), 0 ≤ r → r + 2 * pw j ≤ 4194304 → r * r ≤ v → v < (r + 2 * pw j) * (r + 2 * pw j) → ∃ q, IsRt v q ∧ lp (bX5_root_6 (lZ v)) (iZ r, iZ (pw j)) = some (iZ q) := by
  have hz : ∀ r : Int, lp (bX5_root_6 (lZ v)) (iZ r, iZ 0) = some (iZ r) := by
    intro r
    refine lp_out ?_
    simp (disch := omega) only [bX5_root_6, gd_true, gd_dec, lt_def, bind_s, isb_0, isb_1, iZ_add, iZ_sub, iZ_mul, iZ_neg, lZ_add, lZ_sub, lZ_mul, iZ_lt, iZ_le, iZ_eq, lZ_lt, lZ_le, lZ_eq, iZ_64, iZ_N, inb_Z, if_pos, if_neg, ↓reduceIte, Bool.true_eq_false, Bool.false_eq_true, li0, li1, li2, li3, li4, li5, li6, li9, li10, li16, li20, li23, li24, li25, li31, li33, li44, li48, li49, li50, li51, li57, li59, li60, li63, li69, li70, li71, li72, li74, li99, li100, li119, li126, li250, li296, li297, li298, li299, li300, li301, li302, li303, li606, li1515, li1818, li16384, li1048576, li2147483647, li10000, lj0, lj1, lj10000]
  have hb : ∀ r p : Int, 0 ≤ r → 1 ≤ p → r + 2 * p ≤ 4194304 → bX5_root_6 (lZ v) (iZ r, iZ p) = some (.inl (iZ (if v < (r + p) * (r + p) then r else r + p), iZ (p / 2))) := by
    intro r p h0 h1 h2
    have m1 := mbd 4194304 4194304 17592186044416 (a := r + p) (b := r + p) (by omega) (by omega) rfl
    simp (disch := omega) only [bX5_root_6, sh1, gd_true, gd_dec, lt_def, bind_s, isb_0, isb_1, iZ_add, iZ_sub, iZ_mul, iZ_neg, lZ_add, lZ_sub, lZ_mul, iZ_lt, iZ_le, iZ_eq, lZ_lt, lZ_le, lZ_eq, iZ_64, iZ_N, inb_Z, if_pos, if_neg, ↓reduceIte, Bool.true_eq_false, Bool.false_eq_true, li0, li1, li2, li3, li4, li5, li6, li9, li10, li16, li20, li23, li24, li25, li31, li33, li44, li48, li49, li50, li51, li57, li59, li60, li63, li69, li70, li71, li72, li74, li99, li100, li119, li126, li250, li296, li297, li298, li299, li300, li301, li302, li303, li606, li1515, li1818, li16384, li1048576, li2147483647, li10000, lj0, lj1, lj10000]
    by_cases h : v < (r + p) * (r + p)
    · rw [if_pos h, if_pos h]
      rfl
    · rw [if_neg h, if_neg h]
      rfl
  intro j
  induction j with
  | zero =>
    intro r h0 h1 h2 h3
    have hp : pw 0 = 1 := rfl
    rw [hp] at h1 h3 ⊢
    rw [lp_in (hb r 1 h0 (by decide) h1) (hz _)]
    by_cases h : v < (r + 1) * (r + 1)
    · rw [if_pos h]
      exact ⟨r, ⟨h0, h2, h⟩, rfl⟩
    · rw [if_neg h]
      have e : r + 2 * 1 = r + 1 + 1 := by omega
      rw [e] at h3
      exact ⟨r + 1, ⟨by omega, by omega, h3⟩, rfl⟩
  | succ j ih =>
    intro r h0 h1 h2 h3
    have hp := pw_pos j
    have e : pw (j + 1) = 2 * pw j := rfl
    rw [e] at h1 h3 ⊢
    have ed : 2 * pw j / 2 = pw j := by omega
    have st := hb r (2 * pw j) h0 (by omega) h1
    rw [ed] at st
    by_cases h : v < (r + 2 * pw j) * (r + 2 * pw j)
    · rw [if_pos h] at st
      obtain ⟨q, h4, h5⟩ := ih r h0 (by omega) h2 h
      exact ⟨q, h4, lp_in st h5⟩
    · rw [if_neg h] at st
      have e2 : r + 2 * (2 * pw j) = r + 2 * pw j + 2 * pw j := by omega
      rw [e2] at h3
      obtain ⟨q, h4, h5⟩ := ih (r + 2 * pw j) (by omega) (by omega) (by omega) h3
      exact ⟨q, h4, lp_in st h5⟩
theorem c_root {v : Int} (hv : 0 ≤ v) (hv2 : v < 1073741824) : fX5_root (lZ v) = some (iZ (rt v)) ∧ IsRt v (rt v) := by
  obtain ⟨q, h1, h2⟩ := c_rootL hv (by omega) 14 0 (by decide) (by decide) (by omega) (by
    have : (0 + 2 * pw 14) * (0 + 2 * pw 14) = 1073741824 := by decide
    omega)
  rw [rt_of h1]
  refine ⟨?_, h1⟩
  unfold fX5_root lX5_root_6
  have e : lp (bX5_root_6 (lZ v)) (0, 16384) = some (iZ q) := h2
  rw [e]
  rfl
noncomputable def hD (N : Int → Int) (k f t : Int) : Int := rt (10000 * abD N k f t / beD N k f t)
theorem lagr (a b c d : Int) : (a * d - b * c) * (a * d - b * c) + (a * c + b * d) * (a * c + b * d) = (a * a + b * b) * (c * c + d * d) := by grind
section C1
variable {n : Int} {N : Int → Int}
theorem ab_be (h : Crd n N) {k f t : Int} (k0 : 0 ≤ k) (k1 : k < n) (f0 : 0 ≤ f) (f1 : f < n) (t0 : 0 ≤ t) (t1 : t < n) : abD N k f t ≤ 19602 * beD N k f t := by
  have h3 := sqD_b h f0 f1 k0 k1
  have h4 := sqD_b h t0 t1 k0 k1
  have h5 := sqD_b h f0 f1 t0 t1
  unfold abD beD
  split
  · split
    · have hl := lagr (dX N f k) (dY N f k) (dX N f t) (dY N f t)
      have hn := sq_nn (dX N f k * dX N f t + dY N f k * dY N f t)
      have e : crD N k f t * crD N k f t ≤ sqD N f k * sqD N f t := by
        unfold crD sqD
        omega
      have : sqD N f k * sqD N f t ≤ 19602 * sqD N f t := Int.mul_le_mul_of_nonneg_right h3.2 h5.1
      omega
    · omega
  · omega
theorem hv_b (h : Crd n N) {k f t : Int} (k0 : 0 ≤ k) (k1 : k < n) (f0 : 0 ≤ f) (f1 : f < n) (t0 : 0 ≤ t) (t1 : t < n) : 0 ≤ 10000 * abD N k f t / beD N k f t ∧ 10000 * abD N k f t / beD N k f t ≤ 196020000 := by
  have h1 := ab_be h k0 k1 f0 f1 t0 t1
  have h2 := abD_b h k0 k1 f0 f1 t0 t1
  have h3 := beD_b (k := k) h f0 f1 t0 t1
  refine ⟨Int.ediv_nonneg (by omega) (by omega), ?_⟩
  have : 10000 * abD N k f t / beD N k f t ≤ (196020000 * beD N k f t) / beD N k f t := Int.ediv_le_ediv (by omega) (by omega)
  rw [Int.mul_ediv_cancel _ (by omega)] at this
  exact this
theorem spq (h : Crd n N) {k f t : Int} (f0 : 0 ≤ f) (f1 : f < n) (t0 : 0 ≤ t) (t1 : t < n) : 10000 * spD N k f t / scD N f t = 10000 * abD N k f t / beD N k f t := by
  have hsc := scD_b h f0 f1 t0 t1
  rcases (spD_eq (k := k) h f0 f1 t0 t1).2 with ⟨e1, e2⟩ | ⟨e1, e2⟩
  · rw [e1, e2]
  · rw [e1, e2, Int.ediv_one, ← Int.mul_assoc, Int.mul_ediv_cancel _ (by omega)]
theorem spD_b (h : Crd n N) {k f t : Int} (k0 : 0 ≤ k) (k1 : k < n) (f0 : 0 ≤ f) (f1 : f < n) (t0 : 0 ≤ t) (t1 : t < n) : 0 ≤ spD N k f t ∧ spD N k f t ≤ 384238404 := by
  have hsc := scD_b h f0 f1 t0 t1
  have h2 := abD_b h k0 k1 f0 f1 t0 t1
  have h1 := ab_be h k0 k1 f0 f1 t0 t1
  rcases (spD_eq (k := k) h f0 f1 t0 t1).2 with ⟨e1, e2⟩ | ⟨e1, e2⟩
  · rw [e2]
    exact h2
  · rw [e2]
    have m1 := mbd 19602 19602 384238404 (a := abD N k f t) (b := scD N f t) (by omega) (by omega) rfl
    have := Int.mul_nonneg h2.1 (show 0 ≤ scD N f t by omega)
    omega
end C1
theorem c_hund {m : Nat → Int32} {n : Int} {N : Int → Int} {s K : Int32} (hm : Row m n N) (hc : Crd n N) (hn : n ≤ 24) {k f t : Int} (k0 : 0 ≤ k) (k1 : k < n) (f0 : 0 ≤ f) (f1 : f < n) (t0 : 0 ≤ t) (t1 : t < n) : fX3_hundredths (iZ k) (iZ f) (iZ t) (m, s, K) = some (iZ (hD N k f t)) := by
  have b1 := spD_b hc k0 k1 f0 f1 t0 t1
  have b2 := scD_b hc f0 f1 t0 t1
  have b3 := hv_b hc k0 k1 f0 f1 t0 t1
  have e := spq (k := k) hc f0 f1 t0 t1
  unfold fX3_hundredths
  simp (disch := omega) only [c_scale hm hc hn f0 f1 t0 t1, c_spread hm hc hn k0 k1 f0 f1 t0 t1, gd_true, gd_dec, lt_def, bind_s, isb_0, isb_1, iZ_add, iZ_sub, iZ_mul, iZ_neg, lZ_add, lZ_sub, lZ_mul, iZ_lt, iZ_le, iZ_eq, lZ_lt, lZ_le, lZ_eq, iZ_64, iZ_N, inb_Z, if_pos, if_neg, ↓reduceIte, Bool.true_eq_false, Bool.false_eq_true, li0, li1, li2, li3, li4, li5, li6, li9, li10, li16, li20, li23, li24, li25, li31, li33, li44, li48, li49, li50, li51, li57, li59, li60, li63, li69, li70, li71, li72, li74, li99, li100, li119, li126, li250, li296, li297, li298, li299, li300, li301, li302, li303, li606, li1515, li1818, li16384, li1048576, li2147483647, li10000, lj0, lj1, lj10000]
  rw [lZ_div (by omega) (by omega) (by omega) (by omega), e, (c_root b3.1 (by omega)).1]
  rfl
