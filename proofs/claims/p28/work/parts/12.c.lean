/-! p28: splitting, in whatever order -/
theorem far_ex (N : Int → Int) {a b : Int} (h : a < b) : ∃ F M, FarP N a b b F M := by
  have key : ∀ m : Nat, ∃ F M, FarP N a b (a + 1 + m) F M := by
    intro m
    induction m with
    | zero => exact ⟨a, 0, by rw [show a + 1 + ((0 : Nat) : Int) = a + 1 by omega]; exact FarP.z N a b⟩
    | succ m ih =>
      obtain ⟨F, M, h⟩ := ih
      rw [show a + 1 + ((m + 1 : Nat) : Int) = a + 1 + (m : Int) + 1 by omega]
      by_cases c : M < spD N (a + 1 + m) a b
      · exact ⟨_, _, h.up (by omega) c⟩
      · exact ⟨_, _, h.st (by omega)⟩
  obtain ⟨F, M, h2⟩ := key (b - a - 1).toNat
  rw [show a + 1 + ((b - a - 1).toNat : Int) = b by omega] at h2
  exact ⟨F, M, h2⟩
noncomputable def farG (N : Int → Int) (a b : Int) : Int := Classical.epsilon (fun F => ∃ M, FarP N a b b F M)
theorem far_is (N : Int → Int) {a b : Int} (h : a < b) : ∃ M, FarP N a b b (farG N a b) M := by
  obtain ⟨F, M, h⟩ := far_ex N h
  exact Classical.epsilon_spec (p := fun F => ∃ M, FarP N a b b F M) ⟨F, M, h⟩
theorem far_eq {N : Int → Int} {a b F M : Int} (hab : a < b) (h : FarP N a b b F M) : farG N a b = F := by
  obtain ⟨M', h'⟩ := far_is N hab
  exact (h'.uniq h).1
def spl (N : Int → Int) (bd : Int) : Nat → Int → Int → Int → Prop
  | 0, _, _, _ => False
  | d + 1, a, b, j => (∃ k : Int, a < k ∧ k < b ∧ bd * bd * scD N a b < spD N k a b) ∧ (j = farG N a b ∨ j < farG N a b ∧ spl N bd d a (farG N a b) j ∨ farG N a b < j ∧ spl N bd d (farG N a b) b j)
theorem sc_pos (N : Int → Int) (a b : Int) : 1 ≤ scD N a b := by
  unfold scD
  split
  · omega
  · exact Int.le_refl 1
theorem bdsc_nn (N : Int → Int) (bd a b : Int) : 0 ≤ bd * bd * scD N a b := Int.mul_nonneg (sq_nn bd) (by have := sc_pos N a b; omega)
theorem far_in {N : Int → Int} {bd a b : Int} (h : ∃ k : Int, a < k ∧ k < b ∧ bd * bd * scD N a b < spD N k a b) : a < farG N a b ∧ farG N a b < b := by
  obtain ⟨k, k0, k1, k2⟩ := h
  obtain ⟨M, hM⟩ := far_is N (show a < b by omega)
  have h1 := hM.1 k k0 k1
  have := bdsc_nn N bd a b
  rcases hM.2.2 with ⟨-, e⟩ | ⟨p, q, -⟩
  · omega
  · exact ⟨p, q⟩
theorem spl_fuel {N : Int → Int} {bd : Int} : ∀ (d d' : Nat) (a b j : Int), (b - a).toNat ≤ d → (b - a).toNat ≤ d' → (spl N bd d a b j ↔ spl N bd d' a b j) := by
  intro d
  induction d with
  | zero =>
    intro d' a b j h1 h2
    cases d' with
    | zero => exact Iff.rfl
    | succ d' =>
      constructor
      · intro h; cases h
      · rintro ⟨⟨k, k0, k1, -⟩, -⟩
        omega
  | succ d ih =>
    intro d' a b j h1 h2
    cases d' with
    | zero =>
      constructor
      · rintro ⟨⟨k, k0, k1, -⟩, -⟩
        omega
      · intro h; cases h
    | succ d' =>
      constructor
      · rintro ⟨hk, h⟩
        obtain ⟨f1, f2⟩ := far_in hk
        refine ⟨hk, ?_⟩
        rcases h with h | ⟨g, h⟩ | ⟨g, h⟩
        · exact Or.inl h
        · exact Or.inr (Or.inl ⟨g, (ih d' a _ j (by omega) (by omega)).mp h⟩)
        · exact Or.inr (Or.inr ⟨g, (ih d' _ b j (by omega) (by omega)).mp h⟩)
      · rintro ⟨hk, h⟩
        obtain ⟨f1, f2⟩ := far_in hk
        refine ⟨hk, ?_⟩
        rcases h with h | ⟨g, h⟩ | ⟨g, h⟩
        · exact Or.inl h
        · exact Or.inr (Or.inl ⟨g, (ih d' a _ j (by omega) (by omega)).mpr h⟩)
        · exact Or.inr (Or.inr ⟨g, (ih d' _ b j (by omega) (by omega)).mpr h⟩)
def spG (N : Int → Int) (bd a b j : Int) : Prop := spl N bd (b - a).toNat a b j
theorem spG_un {N : Int → Int} {bd a b j F M : Int} (hab : a < b) (hF : FarP N a b b F M) (hM : bd * bd * scD N a b < M) : (a < F ∧ F < b) ∧ (spG N bd a b j ↔ j = F ∨ j < F ∧ spG N bd a F j ∨ F < j ∧ spG N bd F b j) := by
  have hn := bdsc_nn N bd a b
  obtain ⟨f1, f2, f3⟩ : a < F ∧ F < b ∧ spD N F a b = M := by
    rcases hF.2.2 with ⟨-, e⟩ | ⟨p, q, r, -⟩
    · omega
    · exact ⟨p, q, r⟩
  refine ⟨⟨f1, f2⟩, ?_⟩
  obtain ⟨d, hd⟩ : ∃ d : Nat, (b - a).toNat = d + 1 := ⟨(b - a).toNat - 1, by omega⟩
  unfold spG
  rw [hd]
  have e := far_eq hab hF
  have hk : ∃ k : Int, a < k ∧ k < b ∧ bd * bd * scD N a b < spD N k a b := ⟨F, f1, f2, by omega⟩
  have i1 := spl_fuel (N := N) (bd := bd) d (F - a).toNat a F j (by omega) (by omega)
  have i2 := spl_fuel (N := N) (bd := bd) d (b - F).toNat F b j (by omega) (by omega)
  constructor
  · rintro ⟨-, h⟩
    rw [e] at h
    rcases h with h | ⟨g, h⟩ | ⟨g, h⟩
    · exact Or.inl h
    · exact Or.inr (Or.inl ⟨g, i1.mp h⟩)
    · exact Or.inr (Or.inr ⟨g, i2.mp h⟩)
  · intro h
    refine ⟨hk, ?_⟩
    rw [e]
    rcases h with h | ⟨g, h⟩ | ⟨g, h⟩
    · exact Or.inl h
    · exact Or.inr (Or.inl ⟨g, i1.mpr h⟩)
    · exact Or.inr (Or.inr ⟨g, i2.mpr h⟩)
def clo (N : Int → Int) (bd a b : Int) : Prop := ∀ k : Int, a < k → k < b → spD N k a b ≤ bd * bd * scD N a b
theorem spG_clo {N : Int → Int} {bd a b j : Int} (h : clo N bd a b) : ¬ spG N bd a b j := by
  unfold spG
  cases (b - a).toNat with
  | zero => exact fun q => q
  | succ d =>
    rintro ⟨⟨k, k0, k1, k2⟩, -⟩
    have := h k k0 k1
    omega
section LC
variable {n : Int} {N : Int → Int} {bd : Int} {F : Int32}
/-- what is kept in the end -/
def TT (N : Int → Int) (n : Int) (F : Int32) (bd j : Int) : Prop := hb F j = true ∨ ∃ a b : Int, 0 ≤ a ∧ b ≤ n - 1 ∧ hb F a = true ∧ IsNx F a b ∧ a < j ∧ j < b ∧ spG N bd a b j
def InvS (N : Int → Int) (n : Int) (F : Int32) (bd : Int) (S : Int32) : Prop := MK n S ∧ (∀ j : Int, 0 ≤ j → hb S j = true → TT N n F bd j) ∧ ∀ a b : Int, 0 ≤ a → b ≤ n - 1 → hb S a = true → IsNx S a b → ∀ j : Int, a < j → j < b → (TT N n F bd j ↔ spG N bd a b j)
theorem gap_un {S : Int32} {a b a' b' j : Int} (a0 : 0 ≤ a) (ha : hb S a = true) (h : IsNx S a b) (a1 : 0 ≤ a') (ha' : hb S a' = true) (h' : IsNx S a' b') (j0 : a < j) (j1 : j < b) (k0 : a' < j) (k1 : j < b') : a' = a ∧ b' = b := by
  have e : a' = a := IsPv.uniq (K := S) (k := j) ⟨k0, a1, ha', fun i p q => h'.2.2 i p (by omega)⟩ ⟨j0, a0, ha, fun i p q => h.2.2 i p (by omega)⟩
  subst e
  exact ⟨rfl, IsNx.uniq h' h⟩
theorem inv0 (MF : MK n F) : InvS N n F bd F := by
  refine ⟨MF, fun j _ h => Or.inl h, fun a b a0 b1 ha hx j j0 j1 => ⟨fun h => ?_, fun h => Or.inr ⟨a, b, a0, b1, ha, hx, j0, j1, h⟩⟩⟩
  rcases h with h | ⟨a', b', c0, c1, c2, c3, c4, c5, c6⟩
  · have := hx.2.2 j j0 j1
    rw [h] at this
    cases this
  · obtain ⟨rfl, rfl⟩ := gap_un a0 ha hx c0 c2 c3 j0 j1 c4 c5
    exact c6
def orB (S : Int32) (k : Int) : Int32 := S ||| (iZ 1 <<< (iZ k &&& iZ 31))
theorem inv_add {S : Int32} (I : InvS N n F bd S) {a b F0 M : Int} (a0 : 0 ≤ a) (b1 : b ≤ n - 1) (ha : hb S a = true) (hx : IsNx S a b) (hF : FarP N a b b F0 M) (hM : bd * bd * scD N a b < M) : InvS N n F bd (orB S F0) ∧ (a < F0 ∧ F0 < b) ∧ hb S F0 = false := by
  obtain ⟨Mk, I1, I2⟩ := I
  have h24 := Mk.1
  have hab := hx.1
  obtain ⟨⟨f1, f2⟩, -⟩ := spG_un (j := F0) hab hF hM
  have hun := fun j : Int => (spG_un (j := j) hab hF hM).2
  have hz := hx.2.2 F0 f1 f2
  have hS : ∀ j : Int, 0 ≤ j → hb (orB S F0) j = (hb S j || decide (j = F0)) := fun j j0 => hb_or (by omega) (by omega) j0
  refine ⟨⟨Mk.or (by omega) (by omega), fun j j0 hj => ?_, fun a' b' c0 c1 c2 c3 j j0 j1 => ?_⟩, ⟨f1, f2⟩, hz⟩
  · by_cases e : j = F0
    · rw [e]
      exact (I2 a b a0 b1 ha hx F0 f1 f2).mpr ((hun F0).mpr (Or.inl rfl))
    · rw [hS j j0, decide_eq_false e, Bool.or_false] at hj
      exact I1 j j0 hj
  · obtain ⟨x1, x2, x3⟩ := c3
    by_cases e1 : a' = F0
    · have e2 : b' = b := by
        refine IsNx.uniq (K := orB S F0) (k := a') ⟨x1, x2, x3⟩ ⟨by omega, by rw [hS b (by omega), hx.2.1]; rfl, fun i p q => ?_⟩
        rw [hS i (by omega), hx.2.2 i (by omega) q, decide_eq_false (by omega)]
        rfl
      rw [e1] at j0 ⊢
      rw [e2] at j1 ⊢
      rw [I2 a b a0 b1 ha hx j (by omega) j1, hun j]
      constructor
      · rintro (h | ⟨h, -⟩ | ⟨-, h⟩)
        · omega
        · omega
        · exact h
      · intro h
        exact Or.inr (Or.inr ⟨j0, h⟩)
    · have ha' : hb S a' = true := by
        rw [hS a' c0, decide_eq_false e1, Bool.or_false] at c2
        exact c2
      by_cases e2 : b' = F0
      · have e3 : a' = a := by
          refine IsPv.uniq (K := orB S F0) (k := F0) ⟨by omega, c0, c2, fun i p q => x3 i p (by omega)⟩ ⟨f1, a0, by rw [hS a a0, ha]; rfl, fun i p q => ?_⟩
          rw [hS i (by omega), hx.2.2 i p (by omega), decide_eq_false (by omega)]
          rfl
        rw [e2] at j1 ⊢
        rw [e3] at j0 ⊢
        rw [I2 a b a0 b1 ha hx j j0 (by omega), hun j]
        constructor
        · rintro (h | ⟨-, h⟩ | ⟨h, -⟩)
          · omega
          · exact h
          · omega
        · intro h
          exact Or.inr (Or.inl ⟨j1, h⟩)
      · refine I2 a' b' c0 c1 ha' ⟨x1, ?_, fun i p q => ?_⟩ j j0 j1
        · rw [hS b' (by omega), decide_eq_false e2, Bool.or_false] at x2
          exact x2
        · have := x3 i p q
          rw [hS i (by omega)] at this
          cases h : hb S i with
          | false => rfl
          | true => rw [h] at this; cases this
theorem inv_end {S : Int32} (MF : MK n F) (I : InvS N n F bd S) (h : ∀ a b : Int, 0 ≤ a → b ≤ n - 1 → hb S a = true → IsNx S a b → clo N bd a b) : ∀ j : Int, 0 ≤ j → (hb S j = true ↔ TT N n F bd j) := by
  obtain ⟨Mk, I1, I2⟩ := I
  intro j j0
  refine ⟨I1 j j0, fun ht => ?_⟩
  cases hj : hb S j with
  | true => rfl
  | false =>
    have jn : j ≤ n - 1 := by
      rcases ht with q | ⟨a, b, -, b1, -, -, -, q, -⟩
      · have := MF.2.2.2 j j0 q
        omega
      · omega
    have e0 : j ≠ 0 := fun q => by rw [q, Mk.2.1] at hj; cases hj
    have e1 : j ≠ n - 1 := fun q => by rw [q, Mk.2.2.1] at hj; cases hj
    obtain ⟨p1, p2, p3, p4⟩ := pv_is Mk (k := j) (by omega)
    obtain ⟨⟨x1, x2, x3⟩, x4⟩ := nx_is Mk (k := j) (by omega) (by omega)
    have hx : IsNx S (pv S j) (nx S j) := ⟨by omega, x2, fun i q r => by
      by_cases e : i < j
      · exact p4 i q e
      · by_cases e2 : i = j
        · rw [e2]; exact hj
        · exact x3 i (by omega) r⟩
    exact absurd ((I2 _ _ p2 x4 p3 hx j p1 x1).mp ht) (spG_clo (h _ _ p2 x4 p3 hx))
theorem TT_un {S S' : Int32} (h : ∀ j : Int, 0 ≤ j → (hb S j = true ↔ TT N n F bd j)) (h' : ∀ j : Int, 0 ≤ j → (hb S' j = true ↔ TT N n F bd j)) : S = S' := hb_ext (fun j j0 _ => by
  cases e : hb S j with
  | true => exact ((h' j j0).mpr ((h j j0).mp e)).symm
  | false =>
    cases e' : hb S' j with
    | false => rfl
    | true =>
      have := (h j j0).mpr ((h' j j0).mp e')
      rw [e] at this
      cases this)
/-- the class's splitting -/
theorem c_splitL {m : Nat → Int32} {K : Int32} {p : PS} (hm : Row m n N) (hc : Crd n N) (d0 : 0 ≤ bd) (d1 : bd ≤ 50) (MF : MK n F) : ∀ (g : Nat) (S : Int32) (f st : Int), InvS N n F bd S → 0 ≤ f → f < n → hb S f = true → (∀ a b : Int, 0 ≤ a → b ≤ f → hb S a = true → IsNx S a b → clo N bd a b) → muS n S f ≤ g → 0 ≤ st → st + muS n S f ≤ 46 → ∃ S' : Int32, InvS N n F bd S' ∧ (∀ a b : Int, 0 ≤ a → b ≤ n - 1 → hb S' a = true → IsNx S' a b → clo N bd a b) ∧ lp (bX2_split_17 (iZ bd) (iZ (n - 1)) p (m, iZ n, K)) (S, iZ f, iZ st) = some S' := by
  intro g
  induction g with
  | zero =>
    intro S f st I f0 f1 hf hcl hg s0 s1
    have hb0 := muS_b S f1
    have hn := MF.1
    have e : f = n - 1 := by omega
    subst e
    refine ⟨S, I, hcl, lp_out ?_⟩
    simp (disch := omega) only [bX2_split_17, gd_true, gd_dec, lt_def, bind_s, isb_0, isb_1, iZ_add, iZ_sub, iZ_mul, iZ_neg, lZ_add, lZ_sub, lZ_mul, iZ_lt, iZ_le, iZ_eq, lZ_lt, lZ_le, lZ_eq, iZ_64, iZ_N, inb_Z, if_pos, if_neg, ↓reduceIte, Bool.true_eq_false, Bool.false_eq_true, li7, li8, li12, li14, li34, li35, li36, li40, li101, li0, li1, li2, li3, li4, li5, li6, li9, li10, li16, li20, li23, li24, li25, li31, li33, li44, li48, li49, li50, li51, li57, li59, li60, li63, li69, li70, li71, li72, li74, li99, li100, li119, li126, li250, li296, li297, li298, li299, li300, li301, li302, li303, li606, li1515, li1818, li16384, li1048576, li2147483647, li10000, lj0, lj1, lj10000]
  | succ g ih =>
    intro S f st I f0 f1 hf hcl hg s0 s1
    have hmu := muS_b S f1
    have hn := MF.1
    have M := I.1
    by_cases e : f = n - 1
    · subst e
      refine ⟨S, I, hcl, lp_out ?_⟩
      simp (disch := omega) only [bX2_split_17, gd_true, gd_dec, lt_def, bind_s, isb_0, isb_1, iZ_add, iZ_sub, iZ_mul, iZ_neg, lZ_add, lZ_sub, lZ_mul, iZ_lt, iZ_le, iZ_eq, lZ_lt, lZ_le, lZ_eq, iZ_64, iZ_N, inb_Z, if_pos, if_neg, ↓reduceIte, Bool.true_eq_false, Bool.false_eq_true, li7, li8, li12, li14, li34, li35, li36, li40, li101, li0, li1, li2, li3, li4, li5, li6, li9, li10, li16, li20, li23, li24, li25, li31, li33, li44, li48, li49, li50, li51, li57, li59, li60, li63, li69, li70, li71, li72, li74, li99, li100, li119, li126, li250, li296, li297, li298, li299, li300, li301, li302, li303, li606, li1515, li1818, li16384, li1048576, li2147483647, li10000, lj0, lj1, lj10000]
    · obtain ⟨J, j1⟩ := nx_is M f0 (by omega)
      have j0 := J.1
      obtain ⟨F0, L, hF, hcF⟩ := c_far (s := iZ n) (K := K) hm hc hn.2 f0 j0 (by omega)
      have hrg := hF.rg j0
      have hL := hF.b hc f0 f1 (by omega) (show nx S f < n by omega) j0 (by omega)
      have hsc := scD_b hc f0 f1 (show 0 ≤ nx S f by omega) (show nx S f < n by omega)
      have cs := c_spread (s := iZ n) (K := K) hm hc hn.2 (k := F0) (f := f) (t := nx S f) (by omega) (by omega) f0 f1 (by omega) (by omega)
      rw [hF.sp] at cs
      have cw := c_within d0 (by omega) hL hsc
      have csc := c_scale (s := iZ n) (K := K) hm hc hn.2 f0 f1 (show 0 ≤ nx S f by omega) (show nx S f < n by omega)
      by_cases hw : L ≤ bd * bd * scD N f (nx S f)
      · rw [decide_eq_true hw] at cw
        have hmu2 : muS n S (nx S f) < muS n S f := by
          unfold muS
          by_cases el : nx S f = n - 1
          · have := su_lo (onz S) (a := f + 1) (b := n - 1) (k := n - 1) (by omega) (Int.le_refl _) (fun i a b => by unfold onz; rw [J.2.2 i (by omega) (by omega)]; rfl)
            rw [su_0] at this
            rw [su_e _ (show n - 1 ≤ nx S f + 1 by omega), this]
            omega
          · have e1 := su_lo (onz S) (a := f + 1) (b := nx S f) (k := n - 1) (by omega) (by omega) (fun i a b => by unfold onz; rw [J.2.2 i (by omega) b]; rfl)
            have e2 := su_split (onz S) (a := nx S f) (b := nx S f + 1) (k := n - 1) (by omega) (by omega)
            have e3 : su (onz S) (nx S f) (nx S f + 1) = 1 := by
              rw [su_s _ (Int.le_refl _), su_0]
              unfold onz
              rw [J.2.1]
              rfl
            omega
        obtain ⟨S', I', c', k'⟩ := ih S (nx S f) (st + 1) I (by omega) (by omega) J.2.1 (fun a b a0 b1 ha hx => by
          by_cases eb : b ≤ f
          · exact hcl a b a0 eb ha hx
          · have ea : a = f := by
              by_cases h1 : a < f
              · have := hx.2.2 f h1 (by omega)
                rw [hf] at this
                cases this
              · by_cases h2 : f < a
                · have := J.2.2 a h2 (by have := hx.1; omega)
                  rw [ha] at this
                  cases this
                · omega
            subst ea
            have : b = nx S a := IsNx.uniq hx J
            subst this
            exact (hF.ok _ (bdsc_nn N bd _ _)).mp hw) (by omega) (by omega) (by omega)
        refine ⟨S', I', c', lp_in ?_ k'⟩
        simp (disch := omega) only [bX2_split_17, c_next M f0 (show f < n - 1 by omega), hcF, cs, csc, cw, bi_z, gd_true, gd_dec, lt_def, bind_s, isb_0, isb_1, iZ_add, iZ_sub, iZ_mul, iZ_neg, lZ_add, lZ_sub, lZ_mul, iZ_lt, iZ_le, iZ_eq, lZ_lt, lZ_le, lZ_eq, iZ_64, iZ_N, inb_Z, if_pos, if_neg, ↓reduceIte, Bool.true_eq_false, Bool.false_eq_true, li7, li8, li12, li14, li34, li35, li36, li40, li101, li0, li1, li2, li3, li4, li5, li6, li9, li10, li16, li20, li23, li24, li25, li31, li33, li44, li48, li49, li50, li51, li57, li59, li60, li63, li69, li70, li71, li72, li74, li99, li100, li119, li126, li250, li296, li297, li298, li299, li300, li301, li302, li303, li606, li1515, li1818, li16384, li1048576, li2147483647, li10000, lj0, lj1, lj10000]
      · rw [decide_eq_false hw] at cw
        obtain ⟨I2, ⟨f2, f3⟩, hFz⟩ := inv_add I f0 j1 hf J hF (by omega)
        have hS : ∀ j : Int, 0 ≤ j → hb (orB S F0) j = (hb S j || decide (j = F0)) := fun j j0 => hb_or (by omega) (by omega) j0
        have hmu2 : muS n (orB S F0) f = muS n S f - 1 := by
          unfold muS
          have := su_up (f := onz S) (g := onz (orB S F0)) (a := f + 1) (F := F0) (k := n - 1) (by omega) (by omega) (by
            unfold onz
            rw [hS F0 (by omega), hFz, decide_eq_true rfl]
            rfl) (fun i a b c => by
            unfold onz
            rw [hS i (by omega), decide_eq_false c, Bool.or_false])
          omega
        obtain ⟨S', I', c', k'⟩ := ih (orB S F0) f (st + 1) I2 f0 f1 (by rw [hS f f0, hf]; rfl) (fun a b a0 b1 ha hx => by
          have := hx.1
          refine hcl a b a0 b1 ?_ ⟨hx.1, ?_, fun i p q => ?_⟩
          · rw [hS a a0, decide_eq_false (by omega), Bool.or_false] at ha
            exact ha
          · have := hx.2.1
            rw [hS b (by omega), decide_eq_false (by omega), Bool.or_false] at this
            exact this
          · have := hx.2.2 i p q
            rw [hS i (by omega), decide_eq_false (by omega), Bool.or_false] at this
            exact this) (by omega) (by omega) (by omega)
        refine ⟨S', I', c', lp_in ?_ k'⟩
        have eo : orB S F0 = S ||| (iZ 1 <<< (iZ F0 &&& iZ 31)) := rfl
        rw [eo]
        simp (disch := omega) only [bX2_split_17, c_next M f0 (show f < n - 1 by omega), hcF, cs, csc, cw, bi_z, gd_true, gd_dec, lt_def, bind_s, isb_0, isb_1, iZ_add, iZ_sub, iZ_mul, iZ_neg, lZ_add, lZ_sub, lZ_mul, iZ_lt, iZ_le, iZ_eq, lZ_lt, lZ_le, lZ_eq, iZ_64, iZ_N, inb_Z, if_pos, if_neg, ↓reduceIte, Bool.true_eq_false, Bool.false_eq_true, li7, li8, li12, li14, li34, li35, li36, li40, li101, li0, li1, li2, li3, li4, li5, li6, li9, li10, li16, li20, li23, li24, li25, li31, li33, li44, li48, li49, li50, li51, li57, li59, li60, li63, li69, li70, li71, li72, li74, li99, li100, li119, li126, li250, li296, li297, li298, li299, li300, li301, li302, li303, li606, li1515, li1818, li16384, li1048576, li2147483647, li10000, lj0, lj1, lj10000]
theorem c_split {m : Nat → Int32} {K : Int32} (p : PS) (hm : Row m n N) (hc : Crd n N) (d0 : 0 ≤ bd) (d1 : bd ≤ 50) (MF : MK n F) : ∃ S : Int32, fX2_split F (iZ bd) p (m, iZ n, K) = some S ∧ MK n S ∧ ∀ j : Int, 0 ≤ j → (hb S j = true ↔ TT N n F bd j) := by
  have hn := MF.1
  have hmu := muS_b F (n := n) (f := 0) (by omega)
  obtain ⟨S, I, hcl, h⟩ := c_splitL (m := m) (K := K) (p := p) hm hc d0 d1 MF (muS n F 0).toNat F 0 0 (inv0 MF) (Int.le_refl 0) (by omega) MF.2.1 (fun a b a0 b1 _ hx => by
    have := hx.1
    omega) (by omega) (Int.le_refl 0) (by omega)
  refine ⟨S, ?_, I.1, inv_end MF I hcl⟩
  unfold fX2_split lX2_split_17 fX3_size S_size
  simp (disch := omega) only [h, gd_true, gd_dec, lt_def, bind_s, isb_0, isb_1, iZ_add, iZ_sub, iZ_mul, iZ_neg, lZ_add, lZ_sub, lZ_mul, iZ_lt, iZ_le, iZ_eq, lZ_lt, lZ_le, lZ_eq, iZ_64, iZ_N, inb_Z, if_pos, if_neg, ↓reduceIte, Bool.true_eq_false, Bool.false_eq_true, li7, li8, li12, li14, li34, li35, li36, li40, li101, li0, li1, li2, li3, li4, li5, li6, li9, li10, li16, li20, li23, li24, li25, li31, li33, li44, li48, li49, li50, li51, li57, li59, li60, li63, li69, li70, li71, li72, li74, li99, li100, li119, li126, li250, li296, li297, li298, li299, li300, li301, li302, li303, li606, li1515, li1818, li16384, li1048576, li2147483647, li10000, lj0, lj1, lj10000]
/-- the law's splitting -/
theorem crossk (hc : Crd n N) {k j a b : Int} (a0 : 0 ≤ a) (a1 : a < n) (b0 : 0 ≤ b) (b1 : b < n) : abD N k a b * beD N j a b < abD N j a b * beD N k a b ↔ spD N k a b < spD N j a b := by
  obtain ⟨e1, -⟩ := spD_eq hc (k := k) a0 a1 b0 b1
  obtain ⟨e2, -⟩ := spD_eq hc (k := j) a0 a1 b0 b1
  have h1 := (beD_b (k := k) hc a0 a1 b0 b1).1
  have h2 := (beD_b (k := j) hc a0 a1 b0 b1).1
  have h3 := sc_pos N a b
  have p1 : (abD N k a b * beD N j a b) * scD N a b = spD N k a b * (beD N k a b * beD N j a b) := by grind
  have p2 : (abD N j a b * beD N k a b) * scD N a b = spD N j a b * (beD N k a b * beD N j a b) := by grind
  have hp : 0 < beD N k a b * beD N j a b := Int.mul_pos (by omega) (by omega)
  constructor
  · intro h
    have := Int.mul_lt_mul_of_pos_right h (show 0 < scD N a b by omega)
    rw [p1, p2] at this
    exact Int.lt_of_mul_lt_mul_right this (Int.le_of_lt hp)
  · intro h
    have := Int.mul_lt_mul_of_pos_right h hp
    rw [← p1, ← p2] at this
    exact Int.lt_of_mul_lt_mul_right this (by omega)
theorem l_far {f : Nat → Int32} (hm : Row f n N) (hc : Crd n N) (hn : n ≤ 12) {a b : Int} (a0 : 0 ≤ a) (ab : a < b) (b1 : b < n) : ∃ F1 : Int, lL_split_55 (iZ a) (iZ b) f 36 (iZ (-1)) (iZ (b - 1)) = some (iZ F1) ∧ (b = a + 1 ∧ F1 = -1 ∨ a < F1 ∧ F1 < b ∧ (∀ j : Int, a < j → j < b → spD N j a b ≤ spD N F1 a b) ∧ ∀ j : Int, a < j → j < F1 → spD N j a b < spD N F1 a b) := by
  obtain ⟨r, h1, F1, rfl, h2⟩ := lp_dn (f := bL_split_55 (iZ a) (iZ b) f 36) (fun k st => ∃ F1 : Int, st = (iZ F1, iZ k) ∧ (k = b - 1 ∧ F1 = -1 ∨ k < F1 ∧ F1 < b ∧ (∀ j : Int, k < j → j < b → spD N j a b ≤ spD N F1 a b) ∧ ∀ j : Int, k < j → j < F1 → spD N j a b < spD N F1 a b)) (fun r => ∃ F1 : Int, r = iZ F1 ∧ (b = a + 1 ∧ F1 = -1 ∨ a < F1 ∧ F1 < b ∧ (∀ j : Int, a < j → j < b → spD N j a b ≤ spD N F1 a b) ∧ ∀ j : Int, a < j → j < F1 → spD N j a b < spD N F1 a b)) (i := b - 1) (n := a) (by omega) (by
    rintro k st k0 k1 ⟨F1, rfl, h⟩
    rcases h with ⟨rfl, rfl⟩ | ⟨g1, g2, g3, g4⟩
    · refine ⟨(iZ (b - 1), iZ (b - 1 - 1)), ?_, b - 1, rfl, Or.inr ⟨by omega, by omega, fun j j0 j1 => ?_, fun j j0 j1 => by omega⟩⟩
      · simp (disch := omega) only [bL_split_55, ← Int.sub_eq_add_neg, gd_true, gd_dec, lt_def, bind_s, isb_0, isb_1, iZ_add, iZ_sub, iZ_mul, iZ_neg, lZ_add, lZ_sub, lZ_mul, iZ_lt, iZ_le, iZ_eq, lZ_lt, lZ_le, lZ_eq, iZ_64, iZ_N, inb_Z, if_pos, if_neg, ↓reduceIte, Bool.true_eq_false, Bool.false_eq_true, li7, li8, li12, li14, li34, li35, li36, li40, li101, li0, li1, li2, li3, li4, li5, li6, li9, li10, li16, li20, li23, li24, li25, li31, li33, li44, li48, li49, li50, li51, li57, li59, li60, li63, li69, li70, li71, li72, li74, li99, li100, li119, li126, li250, li296, li297, li298, li299, li300, li301, li302, li303, li606, li1515, li1818, li16384, li1048576, li2147483647, li10000, lj0, lj1, lj10000]
      · rw [show j = b - 1 by omega]
        exact Int.le_refl _
    · have e1 := l_above hm hc hn (k := k) (a := a) (b := b) (by omega) (by omega) a0 (by omega) (by omega) b1
      have e2 := l_below hm hc hn (k := k) (a := a) (b := b) (by omega) (by omega) a0 (by omega) (by omega) b1
      have e3 := l_above hm hc hn (k := F1) (a := a) (b := b) (by omega) (by omega) a0 (by omega) (by omega) b1
      have e4 := l_below hm hc hn (k := F1) (a := a) (b := b) (by omega) (by omega) a0 (by omega) (by omega) b1
      have q1 := abD_b hc (k := k) (f := a) (t := b) (by omega) (by omega) a0 (by omega) (by omega) b1
      have q2 := abD_b hc (k := F1) (f := a) (t := b) (by omega) (by omega) a0 (by omega) (by omega) b1
      have q3 := beD_b (k := k) hc (f := a) (t := b) a0 (by omega) (by omega) b1
      have q4 := beD_b (k := F1) hc (f := a) (t := b) a0 (by omega) (by omega) b1
      have z1 := mbd 384238404 19602 7531841195208 (a := abD N k a b) (b := beD N F1 a b) (by omega) (by omega) rfl
      have z2 := mbd 384238404 19602 7531841195208 (a := abD N F1 a b) (b := beD N k a b) (by omega) (by omega) rfl
      have cr := crossk hc (k := k) (j := F1) (a := a) (b := b) a0 (by omega) (by omega) b1
      by_cases c : abD N k a b * beD N F1 a b < abD N F1 a b * beD N k a b
      · refine ⟨(iZ F1, iZ (k - 1)), ?_, F1, rfl, Or.inr ⟨by omega, g2, fun j j0 j1 => ?_, fun j j0 j1 => ?_⟩⟩
        · simp (disch := omega) only [bL_split_55, e1, e2, e3, e4, c, ← Int.sub_eq_add_neg, gd_true, gd_dec, lt_def, bind_s, isb_0, isb_1, iZ_add, iZ_sub, iZ_mul, iZ_neg, lZ_add, lZ_sub, lZ_mul, iZ_lt, iZ_le, iZ_eq, lZ_lt, lZ_le, lZ_eq, iZ_64, iZ_N, inb_Z, if_pos, if_neg, ↓reduceIte, Bool.true_eq_false, Bool.false_eq_true, li7, li8, li12, li14, li34, li35, li36, li40, li101, li0, li1, li2, li3, li4, li5, li6, li9, li10, li16, li20, li23, li24, li25, li31, li33, li44, li48, li49, li50, li51, li57, li59, li60, li63, li69, li70, li71, li72, li74, li99, li100, li119, li126, li250, li296, li297, li298, li299, li300, li301, li302, li303, li606, li1515, li1818, li16384, li1048576, li2147483647, li10000, lj0, lj1, lj10000]
        · by_cases e : j = k
          · rw [e]; exact Int.le_of_lt (cr.mp c)
          · exact g3 j (by omega) j1
        · by_cases e : j = k
          · rw [e]; exact cr.mp c
          · exact g4 j (by omega) j1
      · have hle : spD N F1 a b ≤ spD N k a b := by
          by_cases h : spD N k a b < spD N F1 a b
          · exact absurd (cr.mpr h) c
          · omega
        refine ⟨(iZ k, iZ (k - 1)), ?_, k, rfl, Or.inr ⟨by omega, by omega, fun j j0 j1 => ?_, fun j j0 j1 => by omega⟩⟩
        · simp (disch := omega) only [bL_split_55, e1, e2, e3, e4, c, ← Int.sub_eq_add_neg, gd_true, gd_dec, lt_def, bind_s, isb_0, isb_1, iZ_add, iZ_sub, iZ_mul, iZ_neg, lZ_add, lZ_sub, lZ_mul, iZ_lt, iZ_le, iZ_eq, lZ_lt, lZ_le, lZ_eq, iZ_64, iZ_N, inb_Z, if_pos, if_neg, ↓reduceIte, Bool.true_eq_false, Bool.false_eq_true, li7, li8, li12, li14, li34, li35, li36, li40, li101, li0, li1, li2, li3, li4, li5, li6, li9, li10, li16, li20, li23, li24, li25, li31, li33, li44, li48, li49, li50, li51, li57, li59, li60, li63, li69, li70, li71, li72, li74, li99, li100, li119, li126, li250, li296, li297, li298, li299, li300, li301, li302, li303, li606, li1515, li1818, li16384, li1048576, li2147483647, li10000, lj0, lj1, lj10000]
        · by_cases e : j = k
          · rw [e]; exact Int.le_refl _
          · exact Int.le_trans (g3 j (by omega) j1) hle) (by
    rintro st ⟨F1, rfl, h⟩
    refine ⟨iZ F1, ?_, F1, rfl, ?_⟩
    · rcases h with ⟨rfl, rfl⟩ | ⟨g1, g2, -⟩
      · simp (disch := omega) only [bL_split_55, gd_true, gd_dec, lt_def, bind_s, isb_0, isb_1, iZ_add, iZ_sub, iZ_mul, iZ_neg, lZ_add, lZ_sub, lZ_mul, iZ_lt, iZ_le, iZ_eq, lZ_lt, lZ_le, lZ_eq, iZ_64, iZ_N, inb_Z, if_pos, if_neg, ↓reduceIte, Bool.true_eq_false, Bool.false_eq_true, li7, li8, li12, li14, li34, li35, li36, li40, li101, li0, li1, li2, li3, li4, li5, li6, li9, li10, li16, li20, li23, li24, li25, li31, li33, li44, li48, li49, li50, li51, li57, li59, li60, li63, li69, li70, li71, li72, li74, li99, li100, li119, li126, li250, li296, li297, li298, li299, li300, li301, li302, li303, li606, li1515, li1818, li16384, li1048576, li2147483647, li10000, lj0, lj1, lj10000]
      · simp (disch := omega) only [bL_split_55, gd_true, gd_dec, lt_def, bind_s, isb_0, isb_1, iZ_add, iZ_sub, iZ_mul, iZ_neg, lZ_add, lZ_sub, lZ_mul, iZ_lt, iZ_le, iZ_eq, lZ_lt, lZ_le, lZ_eq, iZ_64, iZ_N, inb_Z, if_pos, if_neg, ↓reduceIte, Bool.true_eq_false, Bool.false_eq_true, li7, li8, li12, li14, li34, li35, li36, li40, li101, li0, li1, li2, li3, li4, li5, li6, li9, li10, li16, li20, li23, li24, li25, li31, li33, li44, li48, li49, li50, li51, li57, li59, li60, li63, li69, li70, li71, li72, li74, li99, li100, li119, li126, li250, li296, li297, li298, li299, li300, li301, li302, li303, li606, li1515, li1818, li16384, li1048576, li2147483647, li10000, lj0, lj1, lj10000]
    · rcases h with ⟨h, rfl⟩ | h
      · exact Or.inl ⟨by omega, rfl⟩
      · exact Or.inr h) (s := (iZ (-1), iZ (b - 1))) ⟨-1, rfl, Or.inl ⟨rfl, rfl⟩⟩
  exact ⟨F1, h1, h2⟩
theorem cK_or {S : Int32} {k : Int} (k0 : 0 ≤ k) (k1 : k < 24) (h : hb S k = false) : cK (orB S k) 24 = cK S 24 + 1 := by
  have hS : ∀ j : Int, 0 ≤ j → hb (orB S k) j = (hb S j || decide (j = k)) := fun j j0 => hb_or (by omega) (by omega) j0
  unfold cK
  exact su_up (f := onz S) (g := onz (orB S k)) (a := 0) (F := k) (k := 24) k0 k1 (by
    unfold onz
    rw [hS k k0, h, decide_eq_true rfl]
    rfl) (fun i a b c => by
    unfold onz
    rw [hS i a, decide_eq_false c, Bool.or_false])
theorem l_pass {f : Nat → Int32} (hm : Row f n N) (hc : Crd n N) (hn : n ≤ 12) (d0 : 0 ≤ bd) (d1 : bd ≤ 50) {S : Int32} (I : InvS N n F bd S) : ∃ (S' : Int32) (g : Bool), lL_split_19 (iZ bd) f 36 S (iZ 0) (iZ (n - 2)) = some (S', iZ (bi g)) ∧ InvS N n F bd S' ∧ (g = false → S' = S ∧ ∀ a b : Int, 0 ≤ a → b ≤ n - 1 → hb S a = true → IsNx S a b → clo N bd a b) ∧ (g = true → cK S 24 < cK S' 24) := by
  have n2 := I.1.1
  obtain ⟨r, h1, S', g, rfl, h2⟩ := lp_dn (f := bL_split_19 (iZ bd) f 36) (fun a st => ∃ (S' : Int32) (g : Bool), st = (S', iZ (bi g), iZ a) ∧ InvS N n F bd S' ∧ (g = false → S' = S ∧ ∀ a' b : Int, a < a' → 0 ≤ a' → b ≤ n - 1 → hb S a' = true → IsNx S a' b → clo N bd a' b) ∧ (g = true → cK S 24 < cK S' 24)) (fun r => ∃ (S' : Int32) (g : Bool), r = (S', iZ (bi g)) ∧ InvS N n F bd S' ∧ (g = false → S' = S ∧ ∀ a b : Int, 0 ≤ a → b ≤ n - 1 → hb S a = true → IsNx S a b → clo N bd a b) ∧ (g = true → cK S 24 < cK S' 24)) (i := n - 2) (n := -1) (by omega) (by
    rintro a st a0 a1 ⟨S', g, rfl, I', hf, ht⟩
    have M' := I'.1
    cases hk : hb S' a with
    | false =>
      refine ⟨(S', iZ (bi g), iZ (a - 1)), ?_, S', g, rfl, I', fun q => ⟨(hf q).1, fun a' b b0 b1 b2 b3 b4 => ?_⟩, ht⟩
      · simp (disch := omega) only [bL_split_19, hb_c, hk, ← Int.sub_eq_add_neg, gd_true, gd_dec, lt_def, bind_s, isb_0, isb_1, iZ_add, iZ_sub, iZ_mul, iZ_neg, lZ_add, lZ_sub, lZ_mul, iZ_lt, iZ_le, iZ_eq, lZ_lt, lZ_le, lZ_eq, iZ_64, iZ_N, inb_Z, if_pos, if_neg, ↓reduceIte, Bool.true_eq_false, Bool.false_eq_true, li7, li8, li12, li14, li34, li35, li36, li40, li101, li0, li1, li2, li3, li4, li5, li6, li9, li10, li16, li20, li23, li24, li25, li31, li33, li44, li48, li49, li50, li51, li57, li59, li60, li63, li69, li70, li71, li72, li74, li99, li100, li119, li126, li250, li296, li297, li298, li299, li300, li301, li302, li303, li606, li1515, li1818, li16384, li1048576, li2147483647, li10000, lj0, lj1, lj10000]
      · by_cases e : a' = a
        · rw [e, ← (hf q).1, hk] at b3
          cases b3
        · exact (hf q).2 a' b (by omega) b1 b2 b3 b4
    | true =>
      obtain ⟨J, j1⟩ := nx_is M' (k := a) (by omega) (by omega)
      have j0 := J.1
      have en := l_next (K := S') (k := a) (by omega) J (by omega)
      obtain ⟨F1, eF, hF⟩ := l_far hm hc hn (a := a) (b := nx S' a) (by omega) j0 (by omega)
      have hup : ∀ c : clo N bd a (nx S' a), ∀ q : g = false, ∀ a' b : Int, a - 1 < a' → 0 ≤ a' → b ≤ n - 1 → hb S a' = true → IsNx S a' b → clo N bd a' b := fun c q a' b b0 b1 b2 b3 b4 => by
        by_cases e : a' = a
        · subst e
          have : b = nx S' a' := IsNx.uniq b4 (by rw [← (hf q).1]; exact J)
          rw [this]
          exact c
        · exact (hf q).2 a' b (by omega) b1 b2 b3 b4
      rcases hF with ⟨e, rfl⟩ | ⟨g1, g2, g3, g4⟩
      · refine ⟨(S', iZ (bi g), iZ (a - 1)), ?_, S', g, rfl, I', fun q => ⟨(hf q).1, hup (fun k k0 k1 => by omega) q⟩, ht⟩
        simp (disch := omega) only [bL_split_19, hb_c, hk, en, eF, ← Int.sub_eq_add_neg, gd_true, gd_dec, lt_def, bind_s, isb_0, isb_1, iZ_add, iZ_sub, iZ_mul, iZ_neg, lZ_add, lZ_sub, lZ_mul, iZ_lt, iZ_le, iZ_eq, lZ_lt, lZ_le, lZ_eq, iZ_64, iZ_N, inb_Z, if_pos, if_neg, ↓reduceIte, Bool.true_eq_false, Bool.false_eq_true, li7, li8, li12, li14, li34, li35, li36, li40, li101, li0, li1, li2, li3, li4, li5, li6, li9, li10, li16, li20, li23, li24, li25, li31, li33, li44, li48, li49, li50, li51, li57, li59, li60, li63, li69, li70, li71, li72, li74, li99, li100, li119, li126, li250, li296, li297, li298, li299, li300, li301, li302, li303, li606, li1515, li1818, li16384, li1048576, li2147483647, li10000, lj0, lj1, lj10000]
      · have e1 := l_above hm hc hn (k := F1) (a := a) (b := nx S' a) (by omega) (by omega) (by omega) (by omega) (by omega) (by omega)
        have e2 := l_below hm hc hn (k := F1) (a := a) (b := nx S' a) (by omega) (by omega) (by omega) (by omega) (by omega) (by omega)
        have q1 := abD_b hc (k := F1) (f := a) (t := nx S' a) (by omega) (by omega) (by omega) (by omega) (by omega) (by omega)
        have q2 := beD_b (k := F1) hc (f := a) (t := nx S' a) (by omega) (by omega) (by omega) (by omega)
        obtain ⟨q3, q4⟩ := bd2 d0 d1 q2
        have nk := near_ok (bd := bd) hc (k := F1) (a := a) (b := nx S' a) (by omega) g1 g2 (by omega)
        by_cases c : bd * bd * beD N F1 a (nx S' a) < abD N F1 a (nx S' a)
        · have hlt : bd * bd * scD N a (nx S' a) < spD N F1 a (nx S' a) := by
            by_cases h : spD N F1 a (nx S' a) ≤ bd * bd * scD N a (nx S' a)
            · have := nk.mpr h
              omega
            · omega
          have hFp : FarP N a (nx S' a) (nx S' a) F1 (spD N F1 a (nx S' a)) := ⟨g3, by have := bdsc_nn N bd a (nx S' a); omega, Or.inr ⟨g1, g2, rfl, by have := bdsc_nn N bd a (nx S' a); omega, g4⟩⟩
          obtain ⟨I2, -, hz⟩ := inv_add I' (by omega) j1 hk J hFp hlt
          refine ⟨(orB S' F1, iZ (bi true), iZ (a - 1)), ?_, orB S' F1, true, rfl, I2, fun q => (by cases q), fun _ => ?_⟩
          · have eo : orB S' F1 = S' ||| (iZ 1 <<< (iZ F1 &&& iZ 31)) := rfl
            rw [eo]
            simp (disch := omega) only [bL_split_19, hb_c, hk, en, eF, e1, e2, c, bi_tr, ← Int.sub_eq_add_neg, gd_true, gd_dec, lt_def, bind_s, isb_0, isb_1, iZ_add, iZ_sub, iZ_mul, iZ_neg, lZ_add, lZ_sub, lZ_mul, iZ_lt, iZ_le, iZ_eq, lZ_lt, lZ_le, lZ_eq, iZ_64, iZ_N, inb_Z, if_pos, if_neg, ↓reduceIte, Bool.true_eq_false, Bool.false_eq_true, li7, li8, li12, li14, li34, li35, li36, li40, li101, li0, li1, li2, li3, li4, li5, li6, li9, li10, li16, li20, li23, li24, li25, li31, li33, li44, li48, li49, li50, li51, li57, li59, li60, li63, li69, li70, li71, li72, li74, li99, li100, li119, li126, li250, li296, li297, li298, li299, li300, li301, li302, li303, li606, li1515, li1818, li16384, li1048576, li2147483647, li10000, lj0, lj1, lj10000]
          · rw [cK_or (by omega) (by omega) hz]
            cases g with
            | true => have := ht rfl; omega
            | false => rw [(hf rfl).1]; omega
        · have hcl : clo N bd a (nx S' a) := fun k k0 k1 => Int.le_trans (g3 k k0 k1) (nk.mp (by omega))
          refine ⟨(S', iZ (bi g), iZ (a - 1)), ?_, S', g, rfl, I', fun q => ⟨(hf q).1, hup hcl q⟩, ht⟩
          simp (disch := omega) only [bL_split_19, hb_c, hk, en, eF, e1, e2, c, ← Int.sub_eq_add_neg, gd_true, gd_dec, lt_def, bind_s, isb_0, isb_1, iZ_add, iZ_sub, iZ_mul, iZ_neg, lZ_add, lZ_sub, lZ_mul, iZ_lt, iZ_le, iZ_eq, lZ_lt, lZ_le, lZ_eq, iZ_64, iZ_N, inb_Z, if_pos, if_neg, ↓reduceIte, Bool.true_eq_false, Bool.false_eq_true, li7, li8, li12, li14, li34, li35, li36, li40, li101, li0, li1, li2, li3, li4, li5, li6, li9, li10, li16, li20, li23, li24, li25, li31, li33, li44, li48, li49, li50, li51, li57, li59, li60, li63, li69, li70, li71, li72, li74, li99, li100, li119, li126, li250, li296, li297, li298, li299, li300, li301, li302, li303, li606, li1515, li1818, li16384, li1048576, li2147483647, li10000, lj0, lj1, lj10000]) (by
    rintro st ⟨S', g, rfl, I', hf, ht⟩
    refine ⟨(S', iZ (bi g)), ?_, S', g, rfl, I', fun q => ⟨(hf q).1, fun a b a0 b1 b2 b3 => (hf q).2 a b (by omega) a0 b1 b2 b3⟩, ht⟩
    simp (disch := omega) only [bL_split_19, gd_true, gd_dec, lt_def, bind_s, isb_0, isb_1, iZ_add, iZ_sub, iZ_mul, iZ_neg, lZ_add, lZ_sub, lZ_mul, iZ_lt, iZ_le, iZ_eq, lZ_lt, lZ_le, lZ_eq, iZ_64, iZ_N, inb_Z, if_pos, if_neg, ↓reduceIte, Bool.true_eq_false, Bool.false_eq_true, li7, li8, li12, li14, li34, li35, li36, li40, li101, li0, li1, li2, li3, li4, li5, li6, li9, li10, li16, li20, li23, li24, li25, li31, li33, li44, li48, li49, li50, li51, li57, li59, li60, li63, li69, li70, li71, li72, li74, li99, li100, li119, li126, li250, li296, li297, li298, li299, li300, li301, li302, li303, li606, li1515, li1818, li16384, li1048576, li2147483647, li10000, lj0, lj1, lj10000]) (s := (S, iZ (bi false), iZ (n - 2))) ⟨S, false, rfl, I, fun _ => ⟨rfl, fun a' b b0 b1 b2 b3 b4 => by
      have := b4.1
      omega⟩, fun q => by cases q⟩
  exact ⟨S', g, h1, h2⟩
theorem l_split {f : Nat → Int32} (hm : Row f n N) (hc : Crd n N) (hn : n ≤ 12) (d0 : 0 ≤ bd) (d1 : bd ≤ 50) (MF : MK n F) : ∃ S : Int32, fL_split (iZ n) F (iZ bd) 36 f = some S ∧ MK n S ∧ ∀ j : Int, 0 ≤ j → (hb S j = true ↔ TT N n F bd j) := by
  have n2 := MF.1
  obtain ⟨S, h1, h2, h3⟩ := lp_mu (f := bL_split_6 (iZ n) (iZ bd) f 36) (fun st => ∃ (S : Int32) (g : Bool), st = (S, iZ (bi g)) ∧ InvS N n F bd S ∧ (g = false → ∀ a b : Int, 0 ≤ a → b ≤ n - 1 → hb S a = true → IsNx S a b → clo N bd a b)) (fun st => (2 * (24 - cK st.1 24) + st.2.toInt).toNat) (fun S => MK n S ∧ ∀ j : Int, 0 ≤ j → (hb S j = true ↔ TT N n F bd j)) (by
    rintro st ⟨S, g, rfl, I, hcl⟩
    cases g with
    | false =>
      refine Or.inr ⟨S, ?_, I.1, inv_end MF I (hcl rfl)⟩
      simp (disch := omega) only [bL_split_6, bi_fa, gd_true, gd_dec, lt_def, bind_s, isb_0, isb_1, iZ_add, iZ_sub, iZ_mul, iZ_neg, lZ_add, lZ_sub, lZ_mul, iZ_lt, iZ_le, iZ_eq, lZ_lt, lZ_le, lZ_eq, iZ_64, iZ_N, inb_Z, if_pos, if_neg, ↓reduceIte, Bool.true_eq_false, Bool.false_eq_true, li7, li8, li12, li14, li34, li35, li36, li40, li101, li0, li1, li2, li3, li4, li5, li6, li9, li10, li16, li20, li23, li24, li25, li31, li33, li44, li48, li49, li50, li51, li57, li59, li60, li63, li69, li70, li71, li72, li74, li99, li100, li119, li126, li250, li296, li297, li298, li299, li300, li301, li302, li303, li606, li1515, li1818, li16384, li1048576, li2147483647, li10000, lj0, lj1, lj10000]
    | true =>
      obtain ⟨S', g', e, I', hf, ht⟩ := l_pass hm hc hn d0 d1 I
      refine Or.inl ⟨(S', iZ (bi g')), ?_, ⟨S', g', rfl, I', fun q => ?_⟩, ?_⟩
      · simp (disch := omega) only [bL_split_6, bi_tr, e, gd_true, gd_dec, lt_def, bind_s, isb_0, isb_1, iZ_add, iZ_sub, iZ_mul, iZ_neg, lZ_add, lZ_sub, lZ_mul, iZ_lt, iZ_le, iZ_eq, lZ_lt, lZ_le, lZ_eq, iZ_64, iZ_N, inb_Z, if_pos, if_neg, ↓reduceIte, Bool.true_eq_false, Bool.false_eq_true, li7, li8, li12, li14, li34, li35, li36, li40, li101, li0, li1, li2, li3, li4, li5, li6, li9, li10, li16, li20, li23, li24, li25, li31, li33, li44, li48, li49, li50, li51, li57, li59, li60, li63, li69, li70, li71, li72, li74, li99, li100, li119, li126, li250, li296, li297, li298, li299, li300, li301, li302, li303, li606, li1515, li1818, li16384, li1048576, li2147483647, li10000, lj0, lj1, lj10000]
      · rw [(hf q).1]
        exact (hf q).2
      · have b1 := (cK_b S (k := 24) (by omega)).2
        have b2 := (cK_b S' (k := 24) (by omega)).2
        show (2 * (24 - cK S' 24) + (iZ (bi g')).toInt).toNat < (2 * (24 - cK S 24) + (iZ (bi true)).toInt).toNat
        have t1 : (iZ (bi true)).toInt = 1 := by decide
        have t0 : (iZ (bi false)).toInt = 0 := by decide
        cases g' with
        | true => have := ht rfl; rw [t1]; omega
        | false => rw [(hf rfl).1, t1, t0]; omega) (F, iZ (bi true)) ⟨F, true, rfl, inv0 MF, fun q => by cases q⟩
  refine ⟨S, ?_, h2, h3⟩
  unfold fL_split lL_split_6
  have h1 : lp (bL_split_6 (iZ n) (iZ bd) f 36) (F, 1) = some S := h1
  rw [h1, bind_s]
end LC
