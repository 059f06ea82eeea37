/-! kept points, strays -/
theorem lp_up {σ ρ : Type} {f : σ → Option (σ ⊕ ρ)} (I : Int → σ → Prop) (Q : ρ → Prop) {i n : Int} (hin : i ≤ n) (hs : ∀ k s, i ≤ k → k < n → I k s → ∃ t, f s = some (.inl t) ∧ I (k + 1) t) (he : ∀ s, I n s → ∃ r, f s = some (.inr r) ∧ Q r) {s : σ} (h : I i s) : ∃ r, lp f s = some r ∧ Q r := by
  obtain ⟨m, hm⟩ : ∃ m : Nat, (m : Int) = n - i := ⟨(n - i).toNat, by omega⟩
  induction m generalizing i s with
  | zero =>
    have : i = n := by omega
    subst this
    obtain ⟨r, h1, h2⟩ := he s h
    exact ⟨r, lp_out h1, h2⟩
  | succ m ih =>
    obtain ⟨t, h1, h2⟩ := hs i s (Int.le_refl i) (by omega) h
    obtain ⟨r, h3, h4⟩ := ih (i := i + 1) (by omega) (fun k s a b c => hs k s (by omega) b c) h2 (by omega)
    exact ⟨r, lp_in h1 h3, h4⟩
theorem lp_dn {σ ρ : Type} {f : σ → Option (σ ⊕ ρ)} (I : Int → σ → Prop) (Q : ρ → Prop) {i n : Int} (hin : n ≤ i) (hs : ∀ k s, n < k → k ≤ i → I k s → ∃ t, f s = some (.inl t) ∧ I (k - 1) t) (he : ∀ s, I n s → ∃ r, f s = some (.inr r) ∧ Q r) {s : σ} (h : I i s) : ∃ r, lp f s = some r ∧ Q r := by
  obtain ⟨m, hm⟩ : ∃ m : Nat, (m : Int) = i - n := ⟨(i - n).toNat, by omega⟩
  induction m generalizing i s with
  | zero =>
    have : i = n := by omega
    subst this
    obtain ⟨r, h1, h2⟩ := he s h
    exact ⟨r, lp_out h1, h2⟩
  | succ m ih =>
    obtain ⟨t, h1, h2⟩ := hs i s (by omega) (Int.le_refl i) h
    obtain ⟨r, h3, h4⟩ := ih (i := i - 1) (by omega) (fun k s a b c => hs k s a (by omega) c) h2 (by omega)
    exact ⟨r, lp_in h1 h3, h4⟩
def bi (b : Bool) : Int := if b then 1 else 0
theorem bi_z (b : Bool) : (iZ (bi b) = iZ 0) = (b = false) := by cases b <;> decide
theorem bi_o (b : Bool) : (iZ (bi b) = iZ 1) = (b = true) := by cases b <;> decide
theorem bi_b (b : Bool) : isb (iZ (bi b)) = true := by cases b <;> decide
theorem bi_n (b : Bool) : 0 ≤ bi b ∧ bi b ≤ 1 := by cases b <;> decide
def MK (n : Int) (K : Int32) : Prop := (2 ≤ n ∧ n ≤ 24) ∧ hb K 0 = true ∧ hb K (n - 1) = true ∧ ∀ j : Int, 0 ≤ j → hb K j = true → j < n
def IsNx (K : Int32) (k j : Int) : Prop := k < j ∧ hb K j = true ∧ ∀ i : Int, k < i → i < j → hb K i = false
def IsPv (K : Int32) (k j : Int) : Prop := j < k ∧ 0 ≤ j ∧ hb K j = true ∧ ∀ i : Int, j < i → i < k → hb K i = false
noncomputable def nx (K : Int32) (k : Int) : Int := Classical.epsilon (fun j => IsNx K k j)
noncomputable def pv (K : Int32) (k : Int) : Int := Classical.epsilon (fun j => IsPv K k j)
theorem IsNx.uniq {K : Int32} {k i j : Int} (h : IsNx K k i) (h2 : IsNx K k j) : i = j := by
  rcases Int.lt_trichotomy i j with q | q | q
  · have := h2.2.2 i h.1 q
    rw [h.2.1] at this
    cases this
  · exact q
  · have := h.2.2 j h2.1 q
    rw [h2.2.1] at this
    cases this
theorem IsPv.uniq {K : Int32} {k i j : Int} (h : IsPv K k i) (h2 : IsPv K k j) : i = j := by
  rcases Int.lt_trichotomy i j with q | q | q
  · have := h.2.2.2 j q h2.1
    rw [h2.2.2.1] at this
    cases this
  · exact q
  · have := h2.2.2.2 i q h.1
    rw [h.2.2.1] at this
    cases this
theorem nx_ex {n : Int} {K : Int32} (M : MK n K) {k : Int} (h0 : 0 ≤ k) (h1 : k < n - 1) : ∃ j, IsNx K k j ∧ j ≤ n - 1 := by
  obtain ⟨m, hm⟩ : ∃ m : Nat, (m : Int) = n - 2 - k := ⟨(n - 2 - k).toNat, by omega⟩
  induction m generalizing k with
  | zero =>
    refine ⟨k + 1, ⟨by omega, ?_, fun i a b => by omega⟩, by omega⟩
    rw [show k + 1 = n - 1 by omega]
    exact M.2.2.1
  | succ m ih =>
    cases hk : hb K (k + 1) with
    | true => exact ⟨k + 1, ⟨by omega, hk, fun i a b => by omega⟩, by omega⟩
    | false =>
      obtain ⟨j, ⟨a, b, c⟩, d⟩ := ih (k := k + 1) (by omega) (by omega) (by omega)
      refine ⟨j, ⟨by omega, b, fun i p q => ?_⟩, d⟩
      by_cases e : i = k + 1
      · rw [e]; exact hk
      · exact c i (by omega) q
theorem pv_ex {n : Int} {K : Int32} (M : MK n K) {k : Int} (h0 : 0 < k) : ∃ j, IsPv K k j := by
  obtain ⟨m, hm⟩ : ∃ m : Nat, (m : Int) = k - 1 := ⟨(k - 1).toNat, by omega⟩
  induction m generalizing k with
  | zero =>
    refine ⟨0, by omega, by omega, M.2.1, fun i a b => by omega⟩
  | succ m ih =>
    cases hk : hb K (k - 1) with
    | true => exact ⟨k - 1, by omega, by omega, hk, fun i a b => by omega⟩
    | false =>
      obtain ⟨j, a, b, c, d⟩ := ih (k := k - 1) (by omega) (by omega)
      refine ⟨j, by omega, b, c, fun i p q => ?_⟩
      by_cases e : i = k - 1
      · rw [e]; exact hk
      · exact d i p (by omega)
theorem nx_is {n : Int} {K : Int32} (M : MK n K) {k : Int} (h0 : 0 ≤ k) (h1 : k < n - 1) : IsNx K k (nx K k) ∧ nx K k ≤ n - 1 := by
  obtain ⟨j, h, h2⟩ := nx_ex M h0 h1
  have e := Classical.epsilon_spec (p := fun j => IsNx K k j) ⟨j, h⟩
  have e2 : nx K k = j := IsNx.uniq e h
  rw [e2]
  exact ⟨h, h2⟩
theorem pv_is {n : Int} {K : Int32} (M : MK n K) {k : Int} (h0 : 0 < k) : IsPv K k (pv K k) := by
  obtain ⟨j, h⟩ := pv_ex M h0
  exact Classical.epsilon_spec (p := fun j => IsPv K k j) ⟨j, h⟩
/-- the next of the last but one's .. : a kept point's next has it as its last -/
theorem pv_nx {K : Int32} {k j : Int} (h0 : 0 ≤ k) (hk : hb K k = true) (h : IsNx K k j) : IsPv K j k := ⟨h.1, h0, hk, h.2.2⟩
section D1
variable {m : Nat → Int32} {n : Int} {N : Int → Int} {s K : Int32}
theorem c_has (K : Int32) {k : Int} (h0 : 0 ≤ k) (h1 : k < 24) : fX5_hasBit K (iZ k) = some (iZ (bi (hb K k))) := by
  unfold fX5_hasBit
  simp (disch := omega) only [hb_c, gd_true, gd_dec, lt_def, bind_s, isb_0, isb_1, iZ_add, iZ_sub, iZ_mul, iZ_neg, lZ_add, lZ_sub, lZ_mul, iZ_lt, iZ_le, iZ_eq, lZ_lt, lZ_le, lZ_eq, iZ_64, iZ_N, inb_Z, if_pos, if_neg, ↓reduceIte, Bool.true_eq_false, Bool.false_eq_true, li0, li1, li2, li3, li4, li5, li6, li9, li10, li16, li20, li23, li24, li25, li31, li33, li44, li48, li49, li50, li51, li57, li59, li60, li63, li69, li70, li71, li72, li74, li99, li100, li119, li126, li250, li296, li297, li298, li299, li300, li301, li302, li303, li606, li1515, li1818, li16384, li1048576, li2147483647, li10000, lj0, lj1, lj10000]
  cases hb K k <;> rfl
theorem c_kept {k : Int} (h0 : 0 ≤ k) (h1 : k < 24) : fX3_isKept (iZ k) (m, s, K) = some (iZ (bi (hb K k))) := by
  unfold fX3_isKept
  simp (disch := omega) only [S_kept, c_has K h0 h1, bi_b, gd_true, gd_dec, lt_def, bind_s, isb_0, isb_1, iZ_add, iZ_sub, iZ_mul, iZ_neg, lZ_add, lZ_sub, lZ_mul, iZ_lt, iZ_le, iZ_eq, lZ_lt, lZ_le, lZ_eq, iZ_64, iZ_N, inb_Z, if_pos, if_neg, ↓reduceIte, Bool.true_eq_false, Bool.false_eq_true, li0, li1, li2, li3, li4, li5, li6, li9, li10, li16, li20, li23, li24, li25, li31, li33, li44, li48, li49, li50, li51, li57, li59, li60, li63, li69, li70, li71, li72, li74, li99, li100, li119, li126, li250, li296, li297, li298, li299, li300, li301, li302, li303, li606, li1515, li1818, li16384, li1048576, li2147483647, li10000, lj0, lj1, lj10000]
theorem c_behind (hn : n ≤ 24) {k j : Int} (h0 : 0 ≤ k) (J : IsNx K k j) (hj : j < n) : fX3_keptBehind (iZ k) (m, iZ n, K) = some (iZ j) := by
  unfold fX3_keptBehind lX3_keptBehind_4
  simp (disch := omega) only [gd_true, gd_dec, lt_def, bind_s, isb_0, isb_1, iZ_add, iZ_sub, iZ_mul, iZ_neg, lZ_add, lZ_sub, lZ_mul, iZ_lt, iZ_le, iZ_eq, lZ_lt, lZ_le, lZ_eq, iZ_64, iZ_N, inb_Z, if_pos, if_neg, ↓reduceIte, Bool.true_eq_false, Bool.false_eq_true, li0, li1, li2, li3, li4, li5, li6, li9, li10, li16, li20, li23, li24, li25, li31, li33, li44, li48, li49, li50, li51, li57, li59, li60, li63, li69, li70, li71, li72, li74, li99, li100, li119, li126, li250, li296, li297, li298, li299, li300, li301, li302, li303, li606, li1515, li1818, li16384, li1048576, li2147483647, li10000, lj0, lj1, lj10000]
  have := J.1
  refine lp_fold (fun i => iZ i) (i := k + 1) (n := j) (by omega) (fun i a b => ?_) ?_
  · have hf := J.2.2 i (by omega) b
    simp (disch := omega) only [bX3_keptBehind_4, S_size, c_kept, bi_z, hf, gd_true, gd_dec, lt_def, bind_s, isb_0, isb_1, iZ_add, iZ_sub, iZ_mul, iZ_neg, lZ_add, lZ_sub, lZ_mul, iZ_lt, iZ_le, iZ_eq, lZ_lt, lZ_le, lZ_eq, iZ_64, iZ_N, inb_Z, if_pos, if_neg, ↓reduceIte, Bool.true_eq_false, Bool.false_eq_true, li0, li1, li2, li3, li4, li5, li6, li9, li10, li16, li20, li23, li24, li25, li31, li33, li44, li48, li49, li50, li51, li57, li59, li60, li63, li69, li70, li71, li72, li74, li99, li100, li119, li126, li250, li296, li297, li298, li299, li300, li301, li302, li303, li606, li1515, li1818, li16384, li1048576, li2147483647, li10000, lj0, lj1, lj10000]
  · have hf := J.2.1
    simp (disch := omega) only [bX3_keptBehind_4, S_size, c_kept, bi_z, hf, gd_true, gd_dec, lt_def, bind_s, isb_0, isb_1, iZ_add, iZ_sub, iZ_mul, iZ_neg, lZ_add, lZ_sub, lZ_mul, iZ_lt, iZ_le, iZ_eq, lZ_lt, lZ_le, lZ_eq, iZ_64, iZ_N, inb_Z, if_pos, if_neg, ↓reduceIte, Bool.true_eq_false, Bool.false_eq_true, li0, li1, li2, li3, li4, li5, li6, li9, li10, li16, li20, li23, li24, li25, li31, li33, li44, li48, li49, li50, li51, li57, li59, li60, li63, li69, li70, li71, li72, li74, li99, li100, li119, li126, li250, li296, li297, li298, li299, li300, li301, li302, li303, li606, li1515, li1818, li16384, li1048576, li2147483647, li10000, lj0, lj1, lj10000]
theorem c_before {k j : Int} (hk : k ≤ 24) (J : IsPv K k j) : fX3_keptBefore (iZ k) (m, s, K) = some (iZ j) := by
  unfold fX3_keptBefore lX3_keptBefore_4
  simp (disch := omega) only [gd_true, gd_dec, lt_def, bind_s, isb_0, isb_1, iZ_add, iZ_sub, iZ_mul, iZ_neg, lZ_add, lZ_sub, lZ_mul, iZ_lt, iZ_le, iZ_eq, lZ_lt, lZ_le, lZ_eq, iZ_64, iZ_N, inb_Z, if_pos, if_neg, ↓reduceIte, Bool.true_eq_false, Bool.false_eq_true, li0, li1, li2, li3, li4, li5, li6, li9, li10, li16, li20, li23, li24, li25, li31, li33, li44, li48, li49, li50, li51, li57, li59, li60, li63, li69, li70, li71, li72, li74, li99, li100, li119, li126, li250, li296, li297, li298, li299, li300, li301, li302, li303, li606, li1515, li1818, li16384, li1048576, li2147483647, li10000, lj0, lj1, lj10000]
  have := J.1
  have := J.2.1
  refine lp_down (fun i => iZ i) (i := k - 1) (n := j) (by omega) (fun i a b => ?_) ?_
  · have hf := J.2.2.2 i a (by omega)
    simp (disch := omega) only [bX3_keptBefore_4, c_kept, bi_z, hf, ← Int.sub_eq_add_neg, gd_true, gd_dec, lt_def, bind_s, isb_0, isb_1, iZ_add, iZ_sub, iZ_mul, iZ_neg, lZ_add, lZ_sub, lZ_mul, iZ_lt, iZ_le, iZ_eq, lZ_lt, lZ_le, lZ_eq, iZ_64, iZ_N, inb_Z, if_pos, if_neg, ↓reduceIte, Bool.true_eq_false, Bool.false_eq_true, li0, li1, li2, li3, li4, li5, li6, li9, li10, li16, li20, li23, li24, li25, li31, li33, li44, li48, li49, li50, li51, li57, li59, li60, li63, li69, li70, li71, li72, li74, li99, li100, li119, li126, li250, li296, li297, li298, li299, li300, li301, li302, li303, li606, li1515, li1818, li16384, li1048576, li2147483647, li10000, lj0, lj1, lj10000]
  · have hf := J.2.2.1
    by_cases hz : j = 0
    · subst hz
      simp (disch := omega) only [bX3_keptBefore_4, gd_true, gd_dec, lt_def, bind_s, isb_0, isb_1, iZ_add, iZ_sub, iZ_mul, iZ_neg, lZ_add, lZ_sub, lZ_mul, iZ_lt, iZ_le, iZ_eq, lZ_lt, lZ_le, lZ_eq, iZ_64, iZ_N, inb_Z, if_pos, if_neg, ↓reduceIte, Bool.true_eq_false, Bool.false_eq_true, li0, li1, li2, li3, li4, li5, li6, li9, li10, li16, li20, li23, li24, li25, li31, li33, li44, li48, li49, li50, li51, li57, li59, li60, li63, li69, li70, li71, li72, li74, li99, li100, li119, li126, li250, li296, li297, li298, li299, li300, li301, li302, li303, li606, li1515, li1818, li16384, li1048576, li2147483647, li10000, lj0, lj1, lj10000]
    · simp (disch := omega) only [bX3_keptBefore_4, c_kept, bi_z, hf, gd_true, gd_dec, lt_def, bind_s, isb_0, isb_1, iZ_add, iZ_sub, iZ_mul, iZ_neg, lZ_add, lZ_sub, lZ_mul, iZ_lt, iZ_le, iZ_eq, lZ_lt, lZ_le, lZ_eq, iZ_64, iZ_N, inb_Z, if_pos, if_neg, ↓reduceIte, Bool.true_eq_false, Bool.false_eq_true, li0, li1, li2, li3, li4, li5, li6, li9, li10, li16, li20, li23, li24, li25, li31, li33, li44, li48, li49, li50, li51, li57, li59, li60, li63, li69, li70, li71, li72, li74, li99, li100, li119, li126, li250, li296, li297, li298, li299, li300, li301, li302, li303, li606, li1515, li1818, li16384, li1048576, li2147483647, li10000, lj0, lj1, lj10000]
end D1
noncomputable def strD (N : Int → Int) (K : Int32) (k : Int) : Int := if hb K k then 0 else hD N k (pv K k) (nx K k)
theorem strD_b {n : Int} {N : Int → Int} {K : Int32} (M : MK n K) (hc : Crd n N) {k : Int} (h0 : 0 ≤ k) (h1 : k < n) : 0 ≤ strD N K k ∧ strD N K k < 2147483648 := by
  unfold strD
  split
  · omega
  · rename_i hk
    have hk0 : k ≠ 0 := fun z => by subst z; exact hk M.2.1
    have hkn : k ≠ n - 1 := fun z => by subst z; exact hk M.2.2.1
    obtain ⟨a1, a2⟩ := nx_is M h0 (by omega)
    have b1 := pv_is M (show 0 < k by omega)
    have hv := hv_b hc h0 h1 b1.2.1 (by have := b1.1; omega) (show 0 ≤ nx K k by have := a1.1; omega) (by omega)
    have h := (c_root hv.1 (by omega)).2
    unfold hD
    refine ⟨h.1, ?_⟩
    have h2 := h.2.1
    rcases Int.lt_or_le (rt (10000 * abD N k (pv K k) (nx K k) / beD N k (pv K k) (nx K k))) 2147483648 with q | q
    · exact q
    · have := Int.mul_le_mul q q (by omega) h.1
      omega
theorem c_stray {m : Nat → Int32} {n : Int} {N : Int → Int} {K : Int32} (hm : Row m n N) (hc : Crd n N) (M : MK n K) {k : Int} (h0 : 0 ≤ k) (h1 : k < n) : fX3_stray (iZ k) (m, iZ n, K) = some (iZ (strD N K k)) := by
  have hn := M.1.2
  unfold fX3_stray strD
  rw [c_kept h0 (by omega), bind_s]
  cases hk : hb K k with
  | true => rfl
  | false =>
    have hk0 : k ≠ 0 := fun z => by subst z; rw [M.2.1] at hk; cases hk
    have hkn : k ≠ n - 1 := fun z => by subst z; rw [M.2.2.1] at hk; cases hk
    obtain ⟨a1, a2⟩ := nx_is M h0 (by omega)
    have b1 := pv_is M (show 0 < k by omega)
    rw [c_before (by omega) b1, bind_s, c_behind hn h0 a1 (by omega), bind_s, c_hund hm hc hn h0 h1 b1.2.1 (by have := b1.1; omega) (by have := a1.1; omega) (by omega)]
    rfl
/-- the first of the greatest -/
def IsGs (f : Int → Int) (n g p : Int) : Prop := (0 ≤ p ∧ p < n) ∧ f p = g ∧ (∀ j : Int, 0 ≤ j → j < n → f j ≤ g) ∧ ∀ j : Int, 0 ≤ j → j < p → f j < g
theorem IsGs.uniq {f : Int → Int} {n g p g' p' : Int} (h : IsGs f n g p) (h2 : IsGs f n g' p') : g = g' ∧ p = p' := by
  obtain ⟨⟨a0, a1⟩, a2, a3, a4⟩ := h
  obtain ⟨⟨b0, b1⟩, b2, b3, b4⟩ := h2
  have e1 := a3 p' b0 b1
  have e2 := b3 p a0 a1
  have e : g = g' := by omega
  refine ⟨e, ?_⟩
  rcases Int.lt_trichotomy p p' with q | q | q
  · have := b4 p a0 q; omega
  · exact q
  · have := a4 p' b0 q; omega
theorem c_gs {m : Nat → Int32} {n : Int} {N : Int → Int} {K : Int32} (hm : Row m n N) (hc : Crd n N) (M : MK n K) : ∃ g p, IsGs (strD N K) n g p ∧ fX3_firstOfGreatestStray (m, iZ n, K) = some (iZ p) := by
  have hn := M.1
  have h00 : strD N K 0 = 0 := by unfold strD; rw [M.2.1]; rfl
  obtain ⟨r, h1, p, g, h2, h3⟩ := lp_up (f := bX3_firstOfGreatestStray_6 (m, iZ n, K)) (fun k st => ∃ p g : Int, st = (iZ p, iZ g, iZ k) ∧ (0 ≤ p ∧ p < n) ∧ (0 ≤ g ∧ g < 2147483648) ∧ strD N K p = g ∧ (∀ j : Int, 0 ≤ j → j < k → strD N K j ≤ g) ∧ ∀ j : Int, 0 ≤ j → j < p → strD N K j < g) (fun r => ∃ p g : Int, r = iZ p ∧ IsGs (strD N K) n g p) (i := 0) (n := n) (by omega) (by
    rintro k st k0 k1 ⟨p, g, rfl, hp, hg, h2, h3, h4⟩
    have hb := strD_b M hc k0 k1
    by_cases hq : strD N K k ≤ g
    · refine ⟨(iZ p, iZ g, iZ (k + 1)), ?_, p, g, rfl, hp, hg, h2, ?_, h4⟩
      · simp (disch := omega) only [bX3_firstOfGreatestStray_6, S_size, c_stray hm hc M k0 k1, gd_true, gd_dec, lt_def, bind_s, isb_0, isb_1, iZ_add, iZ_sub, iZ_mul, iZ_neg, lZ_add, lZ_sub, lZ_mul, iZ_lt, iZ_le, iZ_eq, lZ_lt, lZ_le, lZ_eq, iZ_64, iZ_N, inb_Z, if_pos, if_neg, ↓reduceIte, Bool.true_eq_false, Bool.false_eq_true, li0, li1, li2, li3, li4, li5, li6, li9, li10, li16, li20, li23, li24, li25, li31, li33, li44, li48, li49, li50, li51, li57, li59, li60, li63, li69, li70, li71, li72, li74, li99, li100, li119, li126, li250, li296, li297, li298, li299, li300, li301, li302, li303, li606, li1515, li1818, li16384, li1048576, li2147483647, li10000, lj0, lj1, lj10000]
      · intro j j0 j1
        by_cases e : j = k
        · rw [e]; exact hq
        · exact h3 j j0 (by omega)
    · refine ⟨(iZ k, iZ (strD N K k), iZ (k + 1)), ?_, k, strD N K k, rfl, ⟨k0, k1⟩, hb, rfl, ?_, ?_⟩
      · simp (disch := omega) only [bX3_firstOfGreatestStray_6, S_size, c_stray hm hc M k0 k1, gd_true, gd_dec, lt_def, bind_s, isb_0, isb_1, iZ_add, iZ_sub, iZ_mul, iZ_neg, lZ_add, lZ_sub, lZ_mul, iZ_lt, iZ_le, iZ_eq, lZ_lt, lZ_le, lZ_eq, iZ_64, iZ_N, inb_Z, if_pos, if_neg, ↓reduceIte, Bool.true_eq_false, Bool.false_eq_true, li0, li1, li2, li3, li4, li5, li6, li9, li10, li16, li20, li23, li24, li25, li31, li33, li44, li48, li49, li50, li51, li57, li59, li60, li63, li69, li70, li71, li72, li74, li99, li100, li119, li126, li250, li296, li297, li298, li299, li300, li301, li302, li303, li606, li1515, li1818, li16384, li1048576, li2147483647, li10000, lj0, lj1, lj10000]
      · intro j j0 j1
        by_cases e : j = k
        · rw [e]; exact Int.le_refl _
        · have := h3 j j0 (by omega); omega
      · intro j j0 j1
        have := h3 j j0 j1; omega) (by
    rintro st ⟨p, g, rfl, hp, hg, h2, h3, h4⟩
    refine ⟨iZ p, ?_, p, g, rfl, hp, h2, h3, h4⟩
    simp (disch := omega) only [bX3_firstOfGreatestStray_6, S_size, gd_true, gd_dec, lt_def, bind_s, isb_0, isb_1, iZ_add, iZ_sub, iZ_mul, iZ_neg, lZ_add, lZ_sub, lZ_mul, iZ_lt, iZ_le, iZ_eq, lZ_lt, lZ_le, lZ_eq, iZ_64, iZ_N, inb_Z, if_pos, if_neg, ↓reduceIte, Bool.true_eq_false, Bool.false_eq_true, li0, li1, li2, li3, li4, li5, li6, li9, li10, li16, li20, li23, li24, li25, li31, li33, li44, li48, li49, li50, li51, li57, li59, li60, li63, li69, li70, li71, li72, li74, li99, li100, li119, li126, li250, li296, li297, li298, li299, li300, li301, li302, li303, li606, li1515, li1818, li16384, li1048576, li2147483647, li10000, lj0, lj1, lj10000]) (s := (iZ 0, iZ 0, iZ 0)) ⟨0, 0, rfl, by omega, by omega, h00, fun j a b => by omega, fun j a b => by omega⟩
  refine ⟨g, p, h3, ?_⟩
  unfold fX3_firstOfGreatestStray lX3_firstOfGreatestStray_6
  have e : lp (bX3_firstOfGreatestStray_6 (m, iZ n, K)) (0, 0, 0) = some r := h1
  rw [e, h2]
  rfl
