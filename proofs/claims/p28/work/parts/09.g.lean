/-! the farthest point, splitting -/
def FarP (N : Int → Int) (f t k F M : Int) : Prop := (∀ j : Int, f < j → j < k → spD N j f t ≤ M) ∧ 0 ≤ M ∧ (F = f ∧ M = 0 ∨ f < F ∧ F < k ∧ spD N F f t = M ∧ 0 < M ∧ ∀ j : Int, f < j → j < F → spD N j f t < M)
theorem FarP.z (N : Int → Int) (f t : Int) : FarP N f t (f + 1) f 0 := ⟨fun j a b => by omega, Int.le_refl 0, Or.inl ⟨rfl, rfl⟩⟩
theorem FarP.up {N : Int → Int} {f t k F M : Int} (h : FarP N f t k F M) (hk : f < k) (hM : M < spD N k f t) : FarP N f t (k + 1) k (spD N k f t) := by
  obtain ⟨h1, h2, h3⟩ := h
  refine ⟨fun j a b => ?_, by omega, Or.inr ⟨hk, by omega, rfl, by omega, fun j a b => ?_⟩⟩
  · by_cases e : j = k
    · rw [e]; exact Int.le_refl _
    · have := h1 j a (by omega); omega
  · have := h1 j a b; omega
theorem FarP.st {N : Int → Int} {f t k F M : Int} (h : FarP N f t k F M) (hM : spD N k f t ≤ M) : FarP N f t (k + 1) F M := by
  obtain ⟨h1, h2, h3⟩ := h
  refine ⟨fun j a b => ?_, h2, ?_⟩
  · by_cases e : j = k
    · rw [e]; exact hM
    · exact h1 j a (by omega)
  · rcases h3 with h | ⟨a, b, c⟩
    · exact Or.inl h
    · exact Or.inr ⟨a, by omega, c⟩
theorem FarP.uniq {N : Int → Int} {f t k F M F' M' : Int} (h : FarP N f t k F M) (h2 : FarP N f t k F' M') : F = F' ∧ M = M' := by
  obtain ⟨a1, a2, a3⟩ := h
  obtain ⟨b1, b2, b3⟩ := h2
  rcases a3 with ⟨e1, e2⟩ | ⟨p1, p2, p3, p4, p5⟩
  · rcases b3 with ⟨d1, d2⟩ | ⟨q1, q2, q3, q4, q5⟩
    · omega
    · have := a1 F' q1 q2; omega
  · rcases b3 with ⟨d1, d2⟩ | ⟨q1, q2, q3, q4, q5⟩
    · have := b1 F p1 p2; omega
    · have e1 := a1 F' q1 q2
      have e2 := b1 F p1 p2
      have e : M = M' := by omega
      refine ⟨?_, e⟩
      rcases Int.lt_trichotomy F F' with q | q | q
      · have := q5 F p1 q; omega
      · exact q
      · have := p5 F' q1 q; omega
theorem spD_self (N : Int → Int) (f t : Int) : spD N f f t = 0 := by
  have e1 : dX N f f = 0 := by unfold dX; omega
  have e2 : dY N f f = 0 := by unfold dY; omega
  have ha : alD N f f t = 0 := by unfold alD; rw [e1, e2, Int.zero_mul, Int.zero_mul]; rfl
  have hs : sqD N f f = 0 := by unfold sqD; rw [e1, e2]; rfl
  unfold spD
  rw [ha, if_neg (by decide), hs, Int.zero_mul]
theorem FarP.sp {N : Int → Int} {f t k F M : Int} (h : FarP N f t k F M) : spD N F f t = M := by
  rcases h.2.2 with ⟨e1, e2⟩ | ⟨p1, p2, p3, p4, p5⟩
  · rw [e1, spD_self, e2]
  · exact p3
theorem FarP.rg {N : Int → Int} {f t k F M : Int} (h : FarP N f t k F M) (hk : f < k) : f ≤ F ∧ F < k := by
  rcases h.2.2 with ⟨e1, e2⟩ | ⟨p1, p2, p3, p4, p5⟩ <;> omega
theorem FarP.b {n : Int} {N : Int → Int} {f t k F M : Int} (h : FarP N f t k F M) (hc : Crd n N) (f0 : 0 ≤ f) (f1 : f < n) (t0 : 0 ≤ t) (t1 : t < n) (hk : f < k) (kn : k ≤ n) : 0 ≤ M ∧ M ≤ 384238404 := by
  have := h.rg hk
  have := spD_b hc (k := F) (by omega) (by omega) f0 f1 t0 t1
  rw [h.sp] at this
  exact this
theorem c_far {m : Nat → Int32} {n : Int} {N : Int → Int} {s K : Int32} (hm : Row m n N) (hc : Crd n N) (hn : n ≤ 24) {f t : Int} (f0 : 0 ≤ f) (ft : f < t) (t1 : t < n) : ∃ F M, FarP N f t t F M ∧ fX3_farthestBetween (iZ f) (iZ t) (m, s, K) = some (iZ F) := by
  obtain ⟨r, h1, F, M, rfl, h2⟩ := lp_up (f := bX3_farthestBetween_10 (iZ f) (iZ t) (m, s, K)) (fun k st => ∃ F M : Int, st = (iZ F, lZ M, iZ k) ∧ FarP N f t k F M) (fun r => ∃ F M : Int, r = iZ F ∧ FarP N f t t F M) (i := f + 1) (n := t) (by omega) (by
    rintro k st k0 k1 ⟨F, M, rfl, hF⟩
    have b1 := hF.b hc f0 (by omega) (by omega) t1 (by omega) (by omega)
    have b2 := spD_b hc (k := k) (by omega) (by omega) f0 (show f < n by omega) (show 0 ≤ t by omega) t1
    have cs := c_spread (s := s) (K := K) hm hc hn (k := k) (f := f) (t := t) (by omega) (by omega) f0 (by omega) (by omega) t1
    by_cases q : spD N k f t ≤ M
    · refine ⟨(iZ F, lZ M, iZ (k + 1)), ?_, F, M, rfl, hF.st q⟩
      simp (disch := omega) only [bX3_farthestBetween_10, cs, gd_true, gd_dec, lt_def, bind_s, isb_0, isb_1, iZ_add, iZ_sub, iZ_mul, iZ_neg, lZ_add, lZ_sub, lZ_mul, iZ_lt, iZ_le, iZ_eq, lZ_lt, lZ_le, lZ_eq, iZ_64, iZ_N, inb_Z, if_pos, if_neg, ↓reduceIte, Bool.true_eq_false, Bool.false_eq_true, li0, li1, li2, li3, li4, li5, li6, li9, li10, li16, li20, li23, li24, li25, li31, li33, li44, li48, li49, li50, li51, li57, li59, li60, li63, li69, li70, li71, li72, li74, li99, li100, li119, li126, li250, li296, li297, li298, li299, li300, li301, li302, li303, li606, li1515, li1818, li16384, li1048576, li2147483647, li10000, lj0, lj1, lj10000]
    · refine ⟨(iZ k, lZ (spD N k f t), iZ (k + 1)), ?_, k, _, rfl, hF.up (by omega) (by omega)⟩
      simp (disch := omega) only [bX3_farthestBetween_10, cs, gd_true, gd_dec, lt_def, bind_s, isb_0, isb_1, iZ_add, iZ_sub, iZ_mul, iZ_neg, lZ_add, lZ_sub, lZ_mul, iZ_lt, iZ_le, iZ_eq, lZ_lt, lZ_le, lZ_eq, iZ_64, iZ_N, inb_Z, if_pos, if_neg, ↓reduceIte, Bool.true_eq_false, Bool.false_eq_true, li0, li1, li2, li3, li4, li5, li6, li9, li10, li16, li20, li23, li24, li25, li31, li33, li44, li48, li49, li50, li51, li57, li59, li60, li63, li69, li70, li71, li72, li74, li99, li100, li119, li126, li250, li296, li297, li298, li299, li300, li301, li302, li303, li606, li1515, li1818, li16384, li1048576, li2147483647, li10000, lj0, lj1, lj10000]) (by
    rintro st ⟨F, M, rfl, hF⟩
    refine ⟨iZ F, ?_, F, M, rfl, hF⟩
    simp (disch := omega) only [bX3_farthestBetween_10, gd_true, gd_dec, lt_def, bind_s, isb_0, isb_1, iZ_add, iZ_sub, iZ_mul, iZ_neg, lZ_add, lZ_sub, lZ_mul, iZ_lt, iZ_le, iZ_eq, lZ_lt, lZ_le, lZ_eq, iZ_64, iZ_N, inb_Z, if_pos, if_neg, ↓reduceIte, Bool.true_eq_false, Bool.false_eq_true, li0, li1, li2, li3, li4, li5, li6, li9, li10, li16, li20, li23, li24, li25, li31, li33, li44, li48, li49, li50, li51, li57, li59, li60, li63, li69, li70, li71, li72, li74, li99, li100, li119, li126, li250, li296, li297, li298, li299, li300, li301, li302, li303, li606, li1515, li1818, li16384, li1048576, li2147483647, li10000, lj0, lj1, lj10000]) (s := (iZ f, lZ 0, iZ (f + 1))) ⟨f, 0, rfl, FarP.z N f t⟩
  refine ⟨F, M, h2, ?_⟩
  unfold fX3_farthestBetween lX3_farthestBetween_10
  simp (disch := omega) only [gd_true, gd_dec, lt_def, bind_s, isb_0, isb_1, iZ_add, iZ_sub, iZ_mul, iZ_neg, lZ_add, lZ_sub, lZ_mul, iZ_lt, iZ_le, iZ_eq, lZ_lt, lZ_le, lZ_eq, iZ_64, iZ_N, inb_Z, if_pos, if_neg, ↓reduceIte, Bool.true_eq_false, Bool.false_eq_true, li0, li1, li2, li3, li4, li5, li6, li9, li10, li16, li20, li23, li24, li25, li31, li33, li44, li48, li49, li50, li51, li57, li59, li60, li63, li69, li70, li71, li72, li74, li99, li100, li119, li126, li250, li296, li297, li298, li299, li300, li301, li302, li303, li606, li1515, li1818, li16384, li1048576, li2147483647, li10000, lj0, lj1, lj10000]
  rw [h1]
  rfl
theorem key_cmp {ab be sp sc pa mo : Int} (hb : 0 < be) (hs : 0 < sc) (e : sp * be = ab * sc) : ab * pa ≤ mo * be ↔ sp * pa ≤ mo * sc := by
  have e1 : ab * pa * sc = sp * pa * be := by
    have : ab * pa * sc = ab * sc * pa := by grind
    rw [this, ← e]
    grind
  have e2 : mo * be * sc = mo * sc * be := by grind
  constructor
  · intro h
    have := Int.mul_le_mul_of_nonneg_right h (show 0 ≤ sc by omega)
    rw [e1, e2] at this
    exact Int.le_of_mul_le_mul_right this hb
  · intro h
    have := Int.mul_le_mul_of_nonneg_right h (show 0 ≤ be by omega)
    rw [← e1, ← e2] at this
    exact Int.le_of_mul_le_mul_right this hs
theorem c_next {n : Int} {S : Int32} {p : PS} (M : MK n S) {f : Int} (f0 : 0 ≤ f) (f1 : f < n - 1) : fX2_nextOf S (iZ f) (iZ (n - 1)) p = some (iZ (nx S f)) := by
  have hn := M.1
  obtain ⟨J, j1⟩ := nx_is M f0 f1
  have j0 := J.1
  unfold fX2_nextOf lX2_nextOf_5
  simp (disch := omega) only [gd_true, gd_dec, lt_def, bind_s, isb_0, isb_1, iZ_add, iZ_sub, iZ_mul, iZ_neg, lZ_add, lZ_sub, lZ_mul, iZ_lt, iZ_le, iZ_eq, lZ_lt, lZ_le, lZ_eq, iZ_64, iZ_N, inb_Z, if_pos, if_neg, ↓reduceIte, Bool.true_eq_false, Bool.false_eq_true, li0, li1, li2, li3, li4, li5, li6, li9, li10, li16, li20, li23, li24, li25, li31, li33, li44, li48, li49, li50, li51, li57, li59, li60, li63, li69, li70, li71, li72, li74, li99, li100, li119, li126, li250, li296, li297, li298, li299, li300, li301, li302, li303, li606, li1515, li1818, li16384, li1048576, li2147483647, li10000, lj0, lj1, lj10000]
  refine lp_fold (fun i => iZ i) (i := f + 1) (n := nx S f) (by omega) (fun i a b => ?_) ?_
  · have hf := J.2.2 i (by omega) b
    simp (disch := omega) only [bX2_nextOf_5, c_has, bi_z, hf, gd_true, gd_dec, lt_def, bind_s, isb_0, isb_1, iZ_add, iZ_sub, iZ_mul, iZ_neg, lZ_add, lZ_sub, lZ_mul, iZ_lt, iZ_le, iZ_eq, lZ_lt, lZ_le, lZ_eq, iZ_64, iZ_N, inb_Z, if_pos, if_neg, ↓reduceIte, Bool.true_eq_false, Bool.false_eq_true, li0, li1, li2, li3, li4, li5, li6, li9, li10, li16, li20, li23, li24, li25, li31, li33, li44, li48, li49, li50, li51, li57, li59, li60, li63, li69, li70, li71, li72, li74, li99, li100, li119, li126, li250, li296, li297, li298, li299, li300, li301, li302, li303, li606, li1515, li1818, li16384, li1048576, li2147483647, li10000, lj0, lj1, lj10000]
  · have hf := J.2.1
    by_cases e : nx S f = n - 1
    · simp (disch := omega) only [bX2_nextOf_5, e, gd_true, gd_dec, lt_def, bind_s, isb_0, isb_1, iZ_add, iZ_sub, iZ_mul, iZ_neg, lZ_add, lZ_sub, lZ_mul, iZ_lt, iZ_le, iZ_eq, lZ_lt, lZ_le, lZ_eq, iZ_64, iZ_N, inb_Z, if_pos, if_neg, ↓reduceIte, Bool.true_eq_false, Bool.false_eq_true, li0, li1, li2, li3, li4, li5, li6, li9, li10, li16, li20, li23, li24, li25, li31, li33, li44, li48, li49, li50, li51, li57, li59, li60, li63, li69, li70, li71, li72, li74, li99, li100, li119, li126, li250, li296, li297, li298, li299, li300, li301, li302, li303, li606, li1515, li1818, li16384, li1048576, li2147483647, li10000, lj0, lj1, lj10000]
    · simp (disch := omega) only [bX2_nextOf_5, c_has, bi_z, hf, gd_true, gd_dec, lt_def, bind_s, isb_0, isb_1, iZ_add, iZ_sub, iZ_mul, iZ_neg, lZ_add, lZ_sub, lZ_mul, iZ_lt, iZ_le, iZ_eq, lZ_lt, lZ_le, lZ_eq, iZ_64, iZ_N, inb_Z, if_pos, if_neg, ↓reduceIte, Bool.true_eq_false, Bool.false_eq_true, li0, li1, li2, li3, li4, li5, li6, li9, li10, li16, li20, li23, li24, li25, li31, li33, li44, li48, li49, li50, li51, li57, li59, li60, li63, li69, li70, li71, li72, li74, li99, li100, li119, li126, li250, li296, li297, li298, li299, li300, li301, li302, li303, li606, li1515, li1818, li16384, li1048576, li2147483647, li10000, lj0, lj1, lj10000]
theorem c_within {bd sp sc : Int} (d0 : 0 ≤ bd) (d1 : bd ≤ 51) (h1 : 0 ≤ sp ∧ sp ≤ 384238404) (h2 : 1 ≤ sc ∧ sc ≤ 19602) : fX2_isWithin (iZ bd) (lZ sp) (lZ sc) = some (iZ (bi (decide (sp ≤ bd * bd * sc)))) := by
  have hbb := mbd 51 51 2601 (a := bd) (b := bd) (by omega) (by omega) rfl
  have hb0 := sq_nn bd
  have h3 := mbd 2601 19602 50984802 hbb (b := sc) (by omega) rfl
  unfold fX2_isWithin
  simp (disch := omega) only [gd_true, gd_dec, lt_def, bind_s, isb_0, isb_1, iZ_add, iZ_sub, iZ_mul, iZ_neg, lZ_add, lZ_sub, lZ_mul, iZ_lt, iZ_le, iZ_eq, lZ_lt, lZ_le, lZ_eq, iZ_64, iZ_N, inb_Z, if_pos, if_neg, ↓reduceIte, Bool.true_eq_false, Bool.false_eq_true, li0, li1, li2, li3, li4, li5, li6, li9, li10, li16, li20, li23, li24, li25, li31, li33, li44, li48, li49, li50, li51, li57, li59, li60, li63, li69, li70, li71, li72, li74, li99, li100, li119, li126, li250, li296, li297, li298, li299, li300, li301, li302, li303, li606, li1515, li1818, li16384, li1048576, li2147483647, li10000, lj0, lj1, lj10000]
  by_cases h : sp ≤ bd * bd * sc
  · rw [if_neg (by omega), decide_eq_true h]
    rfl
  · rw [if_pos (by omega), decide_eq_false h]
    rfl
theorem su_split (f : Int → Int) {a b k : Int} (h : a ≤ b) (h2 : b ≤ k) : su f a k = su f a b + su f b k := by
  obtain ⟨m, hm⟩ : ∃ m : Nat, (m : Int) = k - b := ⟨(k - b).toNat, by omega⟩
  induction m generalizing k with
  | zero => rw [show k = b by omega, su_0, Int.add_zero]
  | succ m ih =>
    have e : k = (k - 1) + 1 := by omega
    rw [e, su_s f (by omega), su_s f (by omega), ih (by omega) (by omega), Int.add_assoc]
theorem su_lo (f : Int → Int) {a b k : Int} (h : a ≤ b) (h2 : b ≤ k) (hz : ∀ i, a ≤ i → i < b → f i = 0) : su f a k = su f b k := by
  rw [su_split f h h2, su_skip f (Int.le_refl a) h hz, su_0, Int.zero_add]
theorem su_cg {f g : Int → Int} {a k : Int} (h : ∀ i, a ≤ i → i < k → f i = g i) : su f a k = su g a k := by
  by_cases hk : a ≤ k
  · obtain ⟨m, hm⟩ : ∃ m : Nat, (m : Int) = k - a := ⟨(k - a).toNat, by omega⟩
    induction m generalizing k with
    | zero => rw [show k = a by omega, su_0, su_0]
    | succ m ih =>
      have e : k = (k - 1) + 1 := by omega
      rw [e, su_s f (by omega), su_s g (by omega), ih (fun i p q => h i p (by omega)) (by omega) (by omega), h (k - 1) (by omega) (by omega)]
  · rw [su_e _ (by omega), su_e _ (by omega)]
theorem su_up {f g : Int → Int} {a F k : Int} (h0 : a ≤ F) (h1 : F < k) (hF : g F = f F + 1) (h : ∀ i, a ≤ i → i < k → i ≠ F → g i = f i) : su g a k = su f a k + 1 := by
  rw [su_split g h0 (show F ≤ k by omega), su_split f h0 (show F ≤ k by omega), su_cg (f := g) (g := f) (a := a) (k := F) (fun i p q => h i p (by omega) (by omega))]
  have e : ∀ f : Int → Int, su f F k = f F + su f (F + 1) k := by
    intro f
    rw [su_split f (show F ≤ F + 1 by omega) (show F + 1 ≤ k by omega), su_s f (Int.le_refl F), su_0, Int.zero_add]
  rw [e g, e f, hF, su_cg (f := g) (g := f) (a := F + 1) (k := k) (fun i p q => h i (by omega) q (by omega))]
  omega
def onz (S : Int32) (j : Int) : Int := bi (hb S j)
theorem onz_b (S : Int32) (j : Int) : 0 ≤ onz S j ∧ onz S j ≤ 1 := bi_n _
def muS (n : Int) (S : Int32) (f : Int) : Int := 2 * (n - 1 - f) - su (onz S) (f + 1) (n - 1)
theorem muS_b {n f : Int} (S : Int32) (f1 : f < n) : n - 1 - f ≤ muS n S f ∧ muS n S f ≤ 2 * (n - 1 - f) := by
  unfold muS
  by_cases h : f + 1 ≤ n - 1
  · have := su_bd (onz S) 1 h (fun i _ _ => onz_b S i)
    omega
  · rw [su_e _ (by omega)]
    omega
theorem MK.or {n : Int} {S : Int32} (M : MK n S) {F : Int} (F0 : 0 ≤ F) (F1 : F < n) : MK n (S ||| (iZ 1 <<< (iZ F &&& iZ 31))) := by
  have hn := M.1
  refine ⟨M.1, ?_, ?_, fun j j0 h => ?_⟩
  · rw [hb_or F0 (by omega) (by decide), M.2.1]; rfl
  · rw [hb_or F0 (by omega) (by omega), M.2.2.1]; rfl
  · rw [hb_or F0 (by omega) j0] at h
    cases hj : hb S j with
    | true => exact M.2.2.2 j j0 hj
    | false =>
      rw [hj, Bool.false_or] at h
      have := of_decide_eq_true h
      omega
