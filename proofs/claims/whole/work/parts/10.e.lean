/-! the share -/
theorem sh_tab {n : Nat} (h : n < 97) : n = 0 ∨ (0 < Op.cmpValue (FP.dcmp (FP.i2d (iZ n)) FP.dconst0) .g ∧ ∀ k, k < n + 1 → nn64 (FP.ddiv (FP.i2d (iZ k)) (FP.i2d (iZ n))) = true ∧ Op.cmpValue (FP.dcmp (FP.ddiv (FP.i2d (iZ k)) (FP.i2d (iZ n))) (FP.ddiv (FP.i2d (iZ k)) (FP.i2d (iZ n)))) .l = 0) := co_dec (N := 97) (P := fun n : Nat => n = 0 ∨ (0 < Op.cmpValue (FP.dcmp (FP.i2d (iZ n)) FP.dconst0) .g ∧ ∀ k, k < n + 1 → nn64 (FP.ddiv (FP.i2d (iZ (k : Nat))) (FP.i2d (iZ n))) = true ∧ Op.cmpValue (FP.dcmp (FP.ddiv (FP.i2d (iZ (k : Nat))) (FP.i2d (iZ n))) (FP.ddiv (FP.i2d (iZ (k : Nat))) (FP.i2d (iZ n)))) .l = 0)) (by decide +kernel) h
theorem gd_true' {α : Type} (x : Option α) : gd (inb 296 303) x = x := by
  have : inb 296 303 = true := by decide
  rw [this]
  rfl
theorem sh_0 : ¬ 0 < Op.cmpValue (FP.dcmp (FP.i2d (iZ 0)) FP.dconst0) .g := by decide +kernel
theorem sh_1 : Op.cmpValue (FP.dcmp FP.dconst1 FP.dconst1) .l = 0 := by decide +kernel
theorem g_share {u : ShS} {ts : TS} {hs : HS} {ns : NS} {m : MS} (G : GR u ts hs ns m) : ∃ (x : UInt64) (m' : MS), fX5_share u = some x ∧ fX6_share m = some (x, m') ∧ GR u ts hs ns m' ∧ Op.cmpValue (FP.dcmp x x) .l = 0 := by
  obtain ⟨⟨sc, S⟩, -⟩ := id G
  have hsc := S.1
  have S1 : SR u (M_z (M_s_thrown m (iZ 0))) sc := S
  have hz : M_z m (296 : Int).toNat = iZ sc := S.2.2.1
  have f1 := c_allP S
  have f2 := c_allK S
  have e1 := r_allP S1
  have e2 := r_allK S1
  have bd : 0 ≤ su (kpF u) 0 sc ∧ su (kpF u) 0 sc ≤ su (szF u) 0 sc ∧ su (szF u) 0 sc ≤ 24 * (sc - 0) ∧ 2 * (sc - 0) ≤ su (szF u) 0 sc := by
    have key : ∀ k : Nat, (k : Int) ≤ sc → 0 ≤ su (kpF u) 0 k ∧ su (kpF u) 0 k ≤ su (szF u) 0 k ∧ su (szF u) 0 k ≤ 24 * ((k : Int) - 0) ∧ 2 * ((k : Int) - 0) ≤ su (szF u) 0 k := by
      intro k
      induction k with
      | zero =>
        intro _
        have a1 : su (kpF u) 0 ((0 : Nat) : Int) = 0 := su_0 _ _
        have a2 : su (szF u) 0 ((0 : Nat) : Int) = 0 := su_0 _ _
        rw [a1, a2]
        omega
      | succ k ih =>
        intro hk
        have ih := ih (by omega)
        obtain ⟨z1, z2, -⟩ := sz_b S (show 0 ≤ (k : Int) by omega) (by omega)
        have e : ((k + 1 : Nat) : Int) = (k : Int) + 1 := by omega
        rw [e, su_s _ (show (0 : Int) ≤ (k : Int) by omega), su_s _ (show (0 : Int) ≤ (k : Int) by omega)]
        omega
    have := key sc.toNat (by omega)
    rw [Int.toNat_of_nonneg hsc.1] at this
    exact this
  by_cases h0 : sc = 0
  · subst h0
    have t0 : su (szF u) 0 0 = 0 := su_0 _ _
    rw [t0] at f1
    refine ⟨FP.dconst1, M_s_thrown m (iZ 0), ?_, ?_, G, sh_1⟩
    · unfold fX5_share
      rw [f1, bind_s, if_neg sh_0]
    · unfold fX6_share
      rw [lt_def, gd_true']
      exact if_pos hz
  · obtain ⟨n, hn⟩ : ∃ n : Nat, su (szF u) 0 sc = n := ⟨(su (szF u) 0 sc).toNat, by omega⟩
    obtain ⟨k, hk⟩ : ∃ k : Nat, su (kpF u) 0 sc = k := ⟨(su (kpF u) 0 sc).toNat, by omega⟩
    rw [hn] at f1 e1 bd
    rw [hk] at f2 e2 bd
    rcases sh_tab (n := n) (by omega) with h | ⟨h1, h2⟩
    · omega
    · obtain ⟨h3, h4⟩ := h2 k (by omega)
      refine ⟨_, M_s_thrown m (iZ 0), ?_, ?_, G, h4⟩
      · unfold fX5_share
        rw [f1, bind_s, if_pos h1, f2, bind_s, h3, gd_true]
      · have hne : ¬ M_z (M_s_thrown m (iZ 0)) (296 : Int32).toNatClampNeg = 0 := by
          intro q
          have q : iZ sc = iZ 0 := hz.symm.trans q
          rw [iZ_eq (by omega) (by omega) (by omega) (by omega)] at q
          exact h0 q
        unfold fX6_share
        rw [lt_def, gd_true']
        refine (if_neg hne).trans ?_
        refine bI e2 ?_
        refine bI e1 ?_
        rw [h3]
        rfl
