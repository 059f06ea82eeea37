/-! p28: what would be; isAhead -/
section LE
variable {u : ShS} {f : Nat → Int32} {n : Int} {N : Int → Int} {K F : Int32} {v : Int → Int} {bd : Int}
def Spl (N : Int → Int) (n : Int) (F : Int32) (bd : Int) (S : Int32) : Prop := MK n S ∧ ∀ j : Int, 0 ≤ j → (hb S j = true ↔ TT N n F bd j)
def Few (N : Int → Int) (n : Int) (F : Int32) (bd : Int) (S : Int32) : Prop := feas N n F bd S ∧ ∀ K : Int32, feas N n F bd K → noW S K
noncomputable def splS (N : Int → Int) (n : Int) (F : Int32) (bd : Int) : Int32 := Classical.epsilon (fun S => Spl N n F bd S)
noncomputable def fewS (N : Int → Int) (n : Int) (F : Int32) (bd : Int) : Int32 := Classical.epsilon (fun S => Few N n F bd S)
theorem spl_of {S : Int32} (h : Spl N n F bd S) : splS N n F bd = S := by
  have e : Spl N n F bd (splS N n F bd) := Classical.epsilon_spec (p := fun S => Spl N n F bd S) ⟨S, h⟩
  exact TT_un e.2 h.2
theorem few_of {S : Int32} (h : Few N n F bd S) : fewS N n F bd = S := by
  have e : Few N n F bd (fewS N n F bd) := Classical.epsilon_spec (p := fun S => Few N n F bd S) ⟨S, h⟩
  exact (e.2 S h.1).anti (h.2 _ e.1)
noncomputable def simS (N : Int → Int) (n : Int) (F : Int32) (w bd : Int) : Int32 := if w = 0 then splS N n F bd else fewS N n F bd
noncomputable def cnt (N : Int → Int) (n : Int) (F : Int32) (w bd : Int) : Int := cK (simS N n F w bd) 24
theorem c_spl {m : Nat → Int32} (p : PS) (hm : Row m n N) (hc : Crd n N) (d0 : 0 ≤ bd) (d1 : bd ≤ 50) (MF : MK n F) : fX2_split F (iZ bd) p (m, iZ n, K) = some (splS N n F bd) ∧ MK n (splS N n F bd) := by
  obtain ⟨S, h1, h2, h3⟩ := c_split (K := K) p hm hc d0 d1 MF
  rw [spl_of ⟨h2, h3⟩]
  exact ⟨h1, h2⟩
theorem l_spl (hm : Row f n N) (hc : Crd n N) (hn : n ≤ 12) (d0 : 0 ≤ bd) (d1 : bd ≤ 50) (MF : MK n F) : fL_split (iZ n) F (iZ bd) 36 f = some (splS N n F bd) ∧ MK n (splS N n F bd) := by
  obtain ⟨S, h1, h2, h3⟩ := l_split hm hc hn d0 d1 MF
  rw [spl_of ⟨h2, h3⟩]
  exact ⟨h1, h2⟩
theorem c_few {nd : Nat → Int32} (cs : (Nat → Int32) × (Nat → Int32)) (hc : Crd n N) (hn : 2 ≤ n ∧ n ≤ 24) (d0 : 0 ≤ bd) (d1 : bd ≤ 50) (MF : MK n F) (hnd : ∀ a t : Int, 0 ≤ a → a < t → t < n → NdOk nd N F a t) : ∃ cs' : (Nat → Int32) × (Nat → Int32), fX2_fewest (iZ n) (iZ bd) (nd, cs) = some (fewS N n F bd, (nd, cs')) ∧ Few N n F bd (fewS N n F bd) := by
  obtain ⟨C, S, cs', T, h⟩ := c_fewest cs hn d0 d1 hnd
  have hb := few_best hc hn MF T
  rw [few_of hb]
  exact ⟨cs', h, hb⟩
theorem few_ex (hc : Crd n N) (hm : Row f n N) (hn : 2 ≤ n ∧ n ≤ 24) (d0 : 0 ≤ bd) (d1 : bd ≤ 50) (MF : MK n F) : Few N n F bd (fewS N n F bd) := by
  obtain ⟨nd, -, h⟩ := c_measure (K := F) (F := F) hm hc hn (f, f, f)
  obtain ⟨-, -, h2⟩ := c_few (nd := nd) (f, f) hc hn d0 d1 MF h
  exact h2
theorem l_few (hm : Row f n N) (hc : Crd n N) (hn : 2 ≤ n ∧ n ≤ 10) (d0 : 0 ≤ bd) (d1 : bd ≤ 50) (MF : MK n F) : fL_fewest (iZ n) F (iZ bd) 36 f = some (fewS N n F bd) ∧ MK n (fewS N n F bd) := by
  have h := few_ex hc hm ⟨hn.1, by omega⟩ d0 d1 MF
  exact ⟨l_fewest hm hc hn MF d0 d1 h.1 h.2, h.1.1⟩
theorem sim_MK (hm : Row f n N) (hc : Crd n N) (hn : 2 ≤ n ∧ n ≤ 12) (d0 : 0 ≤ bd) (d1 : bd ≤ 50) (MF : MK n F) (w : Int) : MK n (simS N n F w bd) := by
  unfold simS
  split
  · exact (l_spl hm hc hn.2 d0 d1 MF).2
  · exact (few_ex hc hm ⟨hn.1, by omega⟩ d0 d1 MF).1.1
theorem cnt_b (hm : Row f n N) (hc : Crd n N) (hn : 2 ≤ n ∧ n ≤ 12) (d0 : 0 ≤ bd) (d1 : bd ≤ 50) (MF : MK n F) (w : Int) : 2 ≤ cnt N n F w bd ∧ cnt N n F w bd ≤ 24 := by
  have M := sim_MK hm hc hn d0 d1 MF w
  have h := M.cnt
  have e : cnt N n F w bd = su (onz (simS N n F w bd)) 0 24 := rfl
  omega
theorem c_simp {m : Nat → Int32} (hm : Row m n N) (hc : Crd n N) (hn : 2 ≤ n ∧ n ≤ 12) (d0 : 0 ≤ bd) (d1 : bd ≤ 50) (MF : MK n F) {w : Int} (hw : 0 ≤ w ∧ w ≤ 1) (ps : PS) : ∃ ps' : PS, fX2_keptPoints F (iZ bd) (iZ w) ps (m, iZ n, K) = some (simS N n F w bd, ps') := by
  by_cases e : w = 0
  · subst e
    have h := (c_spl (K := K) ps hm hc d0 d1 MF).1
    refine ⟨ps, ?_⟩
    unfold fX2_keptPoints simS
    simp (disch := omega) only [h, gd_true, gd_dec, lt_def, bind_s, isb_0, isb_1, iZ_add, iZ_sub, iZ_mul, iZ_neg, lZ_add, lZ_sub, lZ_mul, iZ_lt, iZ_le, iZ_eq, lZ_lt, lZ_le, lZ_eq, iZ_64, iZ_N, inb_Z, if_pos, if_neg, ↓reduceIte, Bool.true_eq_false, Bool.false_eq_true, li7, li8, li12, li14, li34, li35, li36, li40, li101, li0, li1, li2, li3, li4, li5, li6, li9, li10, li16, li20, li23, li24, li25, li31, li33, li44, li48, li49, li50, li51, li57, li59, li60, li63, li69, li70, li71, li72, li74, li99, li100, li119, li126, li250, li296, li297, li298, li299, li300, li301, li302, li303, li606, li1515, li1818, li16384, li1048576, li2147483647, li10000, lj0, lj1, lj10000]
  · have e1 : w = 1 := by omega
    subst e1
    obtain ⟨nd, h1, h2⟩ := c_measure (K := K) (F := F) hm hc ⟨hn.1, by omega⟩ ps
    obtain ⟨cs', h3, -⟩ := c_few (nd := nd) ps.2 hc ⟨hn.1, by omega⟩ d0 d1 MF h2
    have fs : fX3_size (m, iZ n, K) = some (iZ n) := rfl
    refine ⟨(nd, cs'), ?_⟩
    unfold fX2_keptPoints simS
    simp (disch := omega) only [h1, fs, h3, gd_true, gd_dec, lt_def, bind_s, isb_0, isb_1, iZ_add, iZ_sub, iZ_mul, iZ_neg, lZ_add, lZ_sub, lZ_mul, iZ_lt, iZ_le, iZ_eq, lZ_lt, lZ_le, lZ_eq, iZ_64, iZ_N, inb_Z, if_pos, if_neg, ↓reduceIte, Bool.true_eq_false, Bool.false_eq_true, li7, li8, li12, li14, li34, li35, li36, li40, li101, li0, li1, li2, li3, li4, li5, li6, li9, li10, li16, li20, li23, li24, li25, li31, li33, li44, li48, li49, li50, li51, li57, li59, li60, li63, li69, li70, li71, li72, li74, li99, li100, li119, li126, li250, li296, li297, li298, li299, li300, li301, li302, li303, li606, li1515, li1818, li16384, li1048576, li2147483647, li10000, lj0, lj1, lj10000]
def LBn (N : Int → Int) (n : Int) (F : Int32) (w many y : Int) : Prop := y = -1 ∧ (∀ b : Int, 0 ≤ b → b ≤ 50 → many < cnt N n F w b) ∨ (0 ≤ y ∧ y ≤ 50) ∧ cnt N n F w y ≤ many ∧ ∀ b : Int, 0 ≤ b → b < y → many < cnt N n F w b
theorem LBn.uniq {w many y z : Int} (h : LBn N n F w many y) (h2 : LBn N n F w many z) : y = z := by
  rcases h with ⟨e, h⟩ | ⟨h0, h1, h3⟩
  · rcases h2 with ⟨e2, -⟩ | ⟨g0, g1, -⟩
    · omega
    · have := h z g0.1 g0.2
      omega
  · rcases h2 with ⟨e2, g⟩ | ⟨g0, g1, g2⟩
    · have := g y h0.1 h0.2
      omega
    · rcases Int.lt_trichotomy y z with q | q | q
      · have := g2 y h0.1 q
        omega
      · exact q
      · have := h3 z g0.1 q
        omega
theorem c_leastL {m : Nat → Int32} (hm : Row m n N) (hc : Crd n N) (hn : 2 ≤ n ∧ n ≤ 12) (MF : MK n F) {w many : Int} (hw : 0 ≤ w ∧ w ≤ 1) (hma : 2 ≤ many ∧ many ≤ 24) : ∀ (d : Nat) (k : Int) (ps : PS), 0 ≤ k → k + d = 51 → (∀ b : Int, 0 ≤ b → b < k → many < cnt N n F w b) → (w = 1 → ∀ a t : Int, 0 ≤ a → a < t → t < n → NdOk ps.1 N F a t) → ∃ (y : Int) (ps' : PS), lp (bX2_leastBoundFor_15 F (iZ many) (iZ w) (m, iZ n, K)) (iZ k, ps) = some (iZ y, ps') ∧ LBn N n F w many y
  | 0, k, ps, k0, hk, hlo, hnd => by
    have : k = 51 := by omega
    subst this
    refine ⟨-1, ps, lp_out ?_, Or.inl ⟨rfl, fun b b0 b1 => hlo b b0 (by omega)⟩⟩
    simp (disch := omega) only [bX2_leastBoundFor_15, gd_true, gd_dec, lt_def, bind_s, isb_0, isb_1, iZ_add, iZ_sub, iZ_mul, iZ_neg, lZ_add, lZ_sub, lZ_mul, iZ_lt, iZ_le, iZ_eq, lZ_lt, lZ_le, lZ_eq, iZ_64, iZ_N, inb_Z, if_pos, if_neg, ↓reduceIte, Bool.true_eq_false, Bool.false_eq_true, li7, li8, li12, li14, li34, li35, li36, li40, li101, li0, li1, li2, li3, li4, li5, li6, li9, li10, li16, li20, li23, li24, li25, li31, li33, li44, li48, li49, li50, li51, li57, li59, li60, li63, li69, li70, li71, li72, li74, li99, li100, li119, li126, li250, li296, li297, li298, li299, li300, li301, li302, li303, li606, li1515, li1818, li16384, li1048576, li2147483647, li10000, lj0, lj1, lj10000]
  | d + 1, k, ps, k0, hk, hlo, hnd => by
    have k1 : k ≤ 50 := by omega
    have M := sim_MK hm hc hn k0 k1 MF w
    have one : ∃ ps' : PS, ((if w = 1 then ((fX3_size (m, iZ n, K)).bind fun r17 => (fX2_fewest r17 (iZ k) ps).bind fun x => some (x.fst, x.snd)) else ((fX2_split F (iZ k) ps (m, iZ n, K)).bind fun r16 => some (r16, ps))) : Option (Int32 × PS)) = some (simS N n F w k, ps') ∧ ps'.1 = ps.1 := by
      by_cases e : w = 0
      · subst e
        have h := (c_spl (K := K) ps hm hc k0 k1 MF).1
        refine ⟨ps, ?_, rfl⟩
        unfold simS
        simp (disch := omega) only [h, gd_true, gd_dec, lt_def, bind_s, isb_0, isb_1, iZ_add, iZ_sub, iZ_mul, iZ_neg, lZ_add, lZ_sub, lZ_mul, iZ_lt, iZ_le, iZ_eq, lZ_lt, lZ_le, lZ_eq, iZ_64, iZ_N, inb_Z, if_pos, if_neg, ↓reduceIte, Bool.true_eq_false, Bool.false_eq_true, li7, li8, li12, li14, li34, li35, li36, li40, li101, li0, li1, li2, li3, li4, li5, li6, li9, li10, li16, li20, li23, li24, li25, li31, li33, li44, li48, li49, li50, li51, li57, li59, li60, li63, li69, li70, li71, li72, li74, li99, li100, li119, li126, li250, li296, li297, li298, li299, li300, li301, li302, li303, li606, li1515, li1818, li16384, li1048576, li2147483647, li10000, lj0, lj1, lj10000]
      · have e1 : w = 1 := by omega
        subst e1
        obtain ⟨cs', h3, -⟩ := c_few (nd := ps.1) ps.2 hc ⟨hn.1, by omega⟩ k0 k1 MF (hnd rfl)
        have fs : fX3_size (m, iZ n, K) = some (iZ n) := rfl
        have h3 : fX2_fewest (iZ n) (iZ k) ps = some (fewS N n F k, (ps.1, cs')) := h3
        refine ⟨(ps.1, cs'), ?_, rfl⟩
        unfold simS
        simp (disch := omega) only [fs, h3, gd_true, gd_dec, lt_def, bind_s, isb_0, isb_1, iZ_add, iZ_sub, iZ_mul, iZ_neg, lZ_add, lZ_sub, lZ_mul, iZ_lt, iZ_le, iZ_eq, lZ_lt, lZ_le, lZ_eq, iZ_64, iZ_N, inb_Z, if_pos, if_neg, ↓reduceIte, Bool.true_eq_false, Bool.false_eq_true, li7, li8, li12, li14, li34, li35, li36, li40, li101, li0, li1, li2, li3, li4, li5, li6, li9, li10, li16, li20, li23, li24, li25, li31, li33, li44, li48, li49, li50, li51, li57, li59, li60, li63, li69, li70, li71, li72, li74, li99, li100, li119, li126, li250, li296, li297, li298, li299, li300, li301, li302, li303, li606, li1515, li1818, li16384, li1048576, li2147483647, li10000, lj0, lj1, lj10000]
    obtain ⟨ps1, f5, hp⟩ := one
    have f6 : fJ6_bitCount_0f7a4 (simS N n F w k) = some (iZ (cnt N n F w k)) := M.ones.1
    have bo := cnt_b hm hc hn k0 k1 MF w
    by_cases hle : cnt N n F w k ≤ many
    · refine ⟨k, ps1, lp_out ?_, Or.inr ⟨⟨k0, k1⟩, hle, hlo⟩⟩
      simp (disch := omega) only [bX2_leastBoundFor_15, f5, f6, gd_true, gd_dec, lt_def, bind_s, isb_0, isb_1, iZ_add, iZ_sub, iZ_mul, iZ_neg, lZ_add, lZ_sub, lZ_mul, iZ_lt, iZ_le, iZ_eq, lZ_lt, lZ_le, lZ_eq, iZ_64, iZ_N, inb_Z, if_pos, if_neg, ↓reduceIte, Bool.true_eq_false, Bool.false_eq_true, li7, li8, li12, li14, li34, li35, li36, li40, li101, li0, li1, li2, li3, li4, li5, li6, li9, li10, li16, li20, li23, li24, li25, li31, li33, li44, li48, li49, li50, li51, li57, li59, li60, li63, li69, li70, li71, li72, li74, li99, li100, li119, li126, li250, li296, li297, li298, li299, li300, li301, li302, li303, li606, li1515, li1818, li16384, li1048576, li2147483647, li10000, lj0, lj1, lj10000]
    · obtain ⟨y, ps2, h1, h2⟩ := c_leastL hm hc hn MF hw hma d (k + 1) ps1 (by omega) (by omega) (fun b b0 b1 => by
        by_cases e : b = k
        · rw [e]; omega
        · exact hlo b b0 (by omega)) (fun e => by rw [hp]; exact hnd e)
      refine ⟨y, ps2, lp_in (t := (iZ (k + 1), ps1)) ?_ h1, h2⟩
      simp (disch := omega) only [bX2_leastBoundFor_15, f5, f6, gd_true, gd_dec, lt_def, bind_s, isb_0, isb_1, iZ_add, iZ_sub, iZ_mul, iZ_neg, lZ_add, lZ_sub, lZ_mul, iZ_lt, iZ_le, iZ_eq, lZ_lt, lZ_le, lZ_eq, iZ_64, iZ_N, inb_Z, if_pos, if_neg, ↓reduceIte, Bool.true_eq_false, Bool.false_eq_true, li7, li8, li12, li14, li34, li35, li36, li40, li101, li0, li1, li2, li3, li4, li5, li6, li9, li10, li16, li20, li23, li24, li25, li31, li33, li44, li48, li49, li50, li51, li57, li59, li60, li63, li69, li70, li71, li72, li74, li99, li100, li119, li126, li250, li296, li297, li298, li299, li300, li301, li302, li303, li606, li1515, li1818, li16384, li1048576, li2147483647, li10000, lj0, lj1, lj10000]
theorem c_least {m : Nat → Int32} (hm : Row m n N) (hc : Crd n N) (hn : 2 ≤ n ∧ n ≤ 12) (MF : MK n F) {w many : Int} (hw : 0 ≤ w ∧ w ≤ 1) (hma : 2 ≤ many ∧ many ≤ 24) (ps : PS) : ∃ (y : Int) (ps' : PS), fX2_leastBoundFor F (iZ many) (iZ w) ps (m, iZ n, K) = some (iZ y, ps') ∧ LBn N n F w many y := by
  by_cases e : w = 0
  · subst e
    obtain ⟨y, ps', h1, h2⟩ := c_leastL (K := K) hm hc hn MF hw hma 51 0 ps (by omega) (by omega) (fun b b0 b1 => by omega) (fun q => absurd q (by decide))
    refine ⟨y, ps', ?_, h2⟩
    unfold fX2_leastBoundFor lX2_leastBoundFor_15
    simp (disch := omega) only [h1, gd_true, gd_dec, lt_def, bind_s, isb_0, isb_1, iZ_add, iZ_sub, iZ_mul, iZ_neg, lZ_add, lZ_sub, lZ_mul, iZ_lt, iZ_le, iZ_eq, lZ_lt, lZ_le, lZ_eq, iZ_64, iZ_N, inb_Z, if_pos, if_neg, ↓reduceIte, Bool.true_eq_false, Bool.false_eq_true, li7, li8, li12, li14, li34, li35, li36, li40, li101, li0, li1, li2, li3, li4, li5, li6, li9, li10, li16, li20, li23, li24, li25, li31, li33, li44, li48, li49, li50, li51, li57, li59, li60, li63, li69, li70, li71, li72, li74, li99, li100, li119, li126, li250, li296, li297, li298, li299, li300, li301, li302, li303, li606, li1515, li1818, li16384, li1048576, li2147483647, li10000, lj0, lj1, lj10000]
  · have e1 : w = 1 := by omega
    subst e1
    obtain ⟨nd, g1, g2⟩ := c_measure (K := K) (F := F) hm hc ⟨hn.1, by omega⟩ ps
    obtain ⟨y, ps', h1, h2⟩ := c_leastL (K := K) hm hc hn MF hw hma 51 0 (nd, ps.2) (by omega) (by omega) (fun b b0 b1 => by omega) (fun _ => g2)
    refine ⟨y, ps', ?_, h2⟩
    unfold fX2_leastBoundFor lX2_leastBoundFor_15
    simp (disch := omega) only [g1, h1, gd_true, gd_dec, lt_def, bind_s, isb_0, isb_1, iZ_add, iZ_sub, iZ_mul, iZ_neg, lZ_add, lZ_sub, lZ_mul, iZ_lt, iZ_le, iZ_eq, lZ_lt, lZ_le, lZ_eq, iZ_64, iZ_N, inb_Z, if_pos, if_neg, ↓reduceIte, Bool.true_eq_false, Bool.false_eq_true, li7, li8, li12, li14, li34, li35, li36, li40, li101, li0, li1, li2, li3, li4, li5, li6, li9, li10, li16, li20, li23, li24, li25, li31, li33, li44, li48, li49, li50, li51, li57, li59, li60, li63, li69, li70, li71, li72, li74, li99, li100, li119, li126, li250, li296, li297, li298, li299, li300, li301, li302, li303, li606, li1515, li1818, li16384, li1048576, li2147483647, li10000, lj0, lj1, lj10000]
theorem q_fix (P : PS1 u n N K v) : ∃ F : Int32, IsFx n (kdD N n (v 1) (v 2)) F ∧ fX1_fixedPoints 0 u = some F ∧ MK n F := by
  obtain ⟨-, hv1, hv2, -⟩ := q_v P
  obtain ⟨⟨-, M, hc⟩, ⟨m, hst, hm⟩, -⟩ := id P
  have hn := M.1
  obtain ⟨F, h1, h2⟩ := c_fixed (us := u) (i := 0) (by decide) hst (q_val P (by omega) (by omega)) (q_val P (by omega) (by omega)) hm hc (by omega) hv1.1 hv1.2 (show 0 ≤ v 2 by omega) (show v 2 ≤ 100 by omega)
  refine ⟨F, h1, h2, fx_MK h1 hn ?_ ?_⟩
  · rw [kdD_0]; decide
  · rw [kdD_n]; decide
theorem q_btw {a lo hi : Int} (ha : -1000 ≤ a ∧ a ≤ 1000) (h0 : -1000 ≤ lo) (h1 : hi ≤ 1000) (h : lo ≤ a ∧ a ≤ hi) : fX5_requireBetweenN (iZ a) (iZ lo) (iZ hi) = some () := by
  unfold fX5_requireBetweenN
  simp (disch := omega) only [gd_true, gd_dec, lt_def, bind_s, isb_0, isb_1, iZ_add, iZ_sub, iZ_mul, iZ_neg, lZ_add, lZ_sub, lZ_mul, iZ_lt, iZ_le, iZ_eq, lZ_lt, lZ_le, lZ_eq, iZ_64, iZ_N, inb_Z, if_pos, if_neg, ↓reduceIte, Bool.true_eq_false, Bool.false_eq_true, li7, li8, li12, li14, li34, li35, li36, li40, li101, li0, li1, li2, li3, li4, li5, li6, li9, li10, li16, li20, li23, li24, li25, li31, li33, li44, li48, li49, li50, li51, li57, li59, li60, li63, li69, li70, li71, li72, li74, li99, li100, li119, li126, li250, li296, li297, li298, li299, li300, li301, li302, li303, li606, li1515, li1818, li16384, li1048576, li2147483647, li10000, lj0, lj1, lj10000]
theorem q_way {w : Int} (h : 0 ≤ w ∧ w ≤ 1) : fX5_requireWayN (iZ w) = some () := by
  have e := q_btw (a := w) (lo := 0) (hi := 1) (by omega) (by omega) (by omega) h
  unfold fX5_requireWayN
  simp (disch := omega) only [e, gd_true, gd_dec, lt_def, bind_s, isb_0, isb_1, iZ_add, iZ_sub, iZ_mul, iZ_neg, lZ_add, lZ_sub, lZ_mul, iZ_lt, iZ_le, iZ_eq, lZ_lt, lZ_le, lZ_eq, iZ_64, iZ_N, inb_Z, if_pos, if_neg, ↓reduceIte, Bool.true_eq_false, Bool.false_eq_true, li7, li8, li12, li14, li34, li35, li36, li40, li101, li0, li1, li2, li3, li4, li5, li6, li9, li10, li16, li20, li23, li24, li25, li31, li33, li44, li48, li49, li50, li51, li57, li59, li60, li63, li69, li70, li71, li72, li74, li99, li100, li119, li126, li250, li296, li297, li298, li299, li300, li301, li302, li303, li606, li1515, li1818, li16384, li1048576, li2147483647, li10000, lj0, lj1, lj10000]
theorem q_if (P : PS1 u n N K v) (hn : n ≤ 12) (hF : IsFx n (kdD N n (v 1) (v 2)) F) (d0 : 0 ≤ bd) (d1 : bd ≤ 50) {w : Int} (hw : 0 ≤ w ∧ w ≤ 1) (ps : PS) : ∃ ps' : PS, fX5_ifSimplified (iZ 0) (iZ bd) (iZ w) u ps = some (iZ (cnt N n F w bd), ps') := by
  obtain ⟨⟨-, M, hc⟩, ⟨m, hst, hm⟩, -⟩ := id P
  obtain ⟨F', h1, h2, MF⟩ := q_fix P
  have := hF.uniq h1
  subst this
  obtain ⟨ps', h3⟩ := c_simp (K := K) hm hc ⟨M.1.1, hn⟩ d0 d1 MF hw ps
  have e1 := q_ex P
  have e2 := q_btw (a := bd) (lo := 0) (hi := 50) (by omega) (by omega) (by omega) ⟨d0, d1⟩
  have e3 := q_way hw
  have e4 : fJ6_bitCount_0f7a4 (simS N n F w bd) = some (iZ (cnt N n F w bd)) := (sim_MK hm hc ⟨M.1.1, hn⟩ d0 d1 MF w).ones.1
  refine ⟨ps', ?_⟩
  unfold fX5_ifSimplified
  simp (disch := omega) only [e1, e2, e3, h2, d05, hst, h3, e4, gd_true, gd_dec, lt_def, bind_s, isb_0, isb_1, iZ_add, iZ_sub, iZ_mul, iZ_neg, lZ_add, lZ_sub, lZ_mul, iZ_lt, iZ_le, iZ_eq, lZ_lt, lZ_le, lZ_eq, iZ_64, iZ_N, inb_Z, if_pos, if_neg, ↓reduceIte, Bool.true_eq_false, Bool.false_eq_true, li7, li8, li12, li14, li34, li35, li36, li40, li101, li0, li1, li2, li3, li4, li5, li6, li9, li10, li16, li20, li23, li24, li25, li31, li33, li44, li48, li49, li50, li51, li57, li59, li60, li63, li69, li70, li71, li72, li74, li99, li100, li119, li126, li250, li296, li297, li298, li299, li300, li301, li302, li303, li606, li1515, li1818, li16384, li1048576, li2147483647, li10000, lj0, lj1, lj10000]
theorem q_least (P : PS1 u n N K v) (hn : n ≤ 12) (hF : IsFx n (kdD N n (v 1) (v 2)) F) {w many : Int} (hw : 0 ≤ w ∧ w ≤ 1) (hma : 2 ≤ many ∧ many ≤ 24) (ps : PS) : ∃ (y : Int) (ps' : PS), fX5_leastBound (iZ 0) (iZ many) (iZ w) u ps = some (iZ y, ps') ∧ LBn N n F w many y := by
  obtain ⟨⟨-, M, hc⟩, ⟨m, hst, hm⟩, -⟩ := id P
  obtain ⟨F', h1, h2, MF⟩ := q_fix P
  have := hF.uniq h1
  subst this
  obtain ⟨y, ps', h3, h4⟩ := c_least (K := K) hm hc ⟨M.1.1, hn⟩ MF hw hma ps
  have e1 := q_ex P
  have e2 := q_btw (a := many) (lo := 2) (hi := 24) (by omega) (by omega) (by omega) hma
  have e3 := q_way hw
  refine ⟨y, ps', ?_, h4⟩
  unfold fX5_leastBound
  simp (disch := omega) only [e1, e2, e3, h2, d05, hst, h3, gd_true, gd_dec, lt_def, bind_s, isb_0, isb_1, iZ_add, iZ_sub, iZ_mul, iZ_neg, lZ_add, lZ_sub, lZ_mul, iZ_lt, iZ_le, iZ_eq, lZ_lt, lZ_le, lZ_eq, iZ_64, iZ_N, inb_Z, if_pos, if_neg, ↓reduceIte, Bool.true_eq_false, Bool.false_eq_true, li7, li8, li12, li14, li34, li35, li36, li40, li101, li0, li1, li2, li3, li4, li5, li6, li9, li10, li16, li20, li23, li24, li25, li31, li33, li44, li48, li49, li50, li51, li57, li59, li60, li63, li69, li70, li71, li72, li74, li99, li100, li119, li126, li250, li296, li297, li298, li299, li300, li301, li302, li303, li606, li1515, li1818, li16384, li1048576, li2147483647, li10000, lj0, lj1, lj10000]
theorem l_fixA (P : PS1 u n N K v) (hm : Row f n N) (hn : n ≤ 12) (hF : IsFx n (kdD N n (v 1) (v 2)) F) : lL_isAhead_6 (iZ n) u f 36 (iZ 0) (iZ 0) = some F := by
  obtain ⟨-, hv1, hv2, -⟩ := q_v P
  obtain ⟨⟨-, M, hc⟩, -, -⟩ := id P
  have n2 := M.1
  have s1 := q_set P (i := 1) (by omega) (by omega)
  have s2 := q_set P (i := 2) (by omega) (by omega)
  obtain ⟨r, h1, h2⟩ := lp_up (f := bL_isAhead_6 (iZ n) u f 36) (fun k st => ∃ G : Int32, st = (G, iZ k) ∧ IsFx k (kdD N n (v 1) (v 2)) G) (fun G => IsFx n (kdD N n (v 1) (v 2)) G) (i := 0) (n := n) (by omega) (by
    rintro k st k0 k1 ⟨G, rfl, hG⟩
    have ef := l_fixed hm hc hn k0 k1 hv1.1 hv1.2 (show 0 ≤ v 2 by omega) (show v 2 ≤ 100 by omega)
    have kb := kdD_b N n (v 1) (v 2) k
    by_cases e : kdD N n (v 1) (v 2) k = 0
    · rw [e] at ef
      refine ⟨(G ||| iZ 0, iZ (k + 1)), ?_, G ||| iZ 0, rfl, by rw [or_0]; exact hG.same e⟩
      simp (disch := omega) only [bL_isAhead_6, s1, s2, ef, gd_true, gd_dec, lt_def, bind_s, isb_0, isb_1, iZ_add, iZ_sub, iZ_mul, iZ_neg, lZ_add, lZ_sub, lZ_mul, iZ_lt, iZ_le, iZ_eq, lZ_lt, lZ_le, lZ_eq, iZ_64, iZ_N, inb_Z, if_pos, if_neg, ↓reduceIte, Bool.true_eq_false, Bool.false_eq_true, li7, li8, li12, li14, li34, li35, li36, li40, li101, li0, li1, li2, li3, li4, li5, li6, li9, li10, li16, li20, li23, li24, li25, li31, li33, li44, li48, li49, li50, li51, li57, li59, li60, li63, li69, li70, li71, li72, li74, li99, li100, li119, li126, li250, li296, li297, li298, li299, li300, li301, li302, li303, li606, li1515, li1818, li16384, li1048576, li2147483647, li10000, lj0, lj1, lj10000]
    · refine ⟨(G ||| (iZ 1 <<< (iZ k &&& iZ 31)), iZ (k + 1)), ?_, _, rfl, hG.add k0 (by omega) e⟩
      simp (disch := omega) only [bL_isAhead_6, s1, s2, ef, gd_true, gd_dec, lt_def, bind_s, isb_0, isb_1, iZ_add, iZ_sub, iZ_mul, iZ_neg, lZ_add, lZ_sub, lZ_mul, iZ_lt, iZ_le, iZ_eq, lZ_lt, lZ_le, lZ_eq, iZ_64, iZ_N, inb_Z, if_pos, if_neg, ↓reduceIte, Bool.true_eq_false, Bool.false_eq_true, li7, li8, li12, li14, li34, li35, li36, li40, li101, li0, li1, li2, li3, li4, li5, li6, li9, li10, li16, li20, li23, li24, li25, li31, li33, li44, li48, li49, li50, li51, li57, li59, li60, li63, li69, li70, li71, li72, li74, li99, li100, li119, li126, li250, li296, li297, li298, li299, li300, li301, li302, li303, li606, li1515, li1818, li16384, li1048576, li2147483647, li10000, lj0, lj1, lj10000]) (by
    rintro st ⟨G, rfl, hG⟩
    refine ⟨G, ?_, hG⟩
    simp (disch := omega) only [bL_isAhead_6, gd_true, gd_dec, lt_def, bind_s, isb_0, isb_1, iZ_add, iZ_sub, iZ_mul, iZ_neg, lZ_add, lZ_sub, lZ_mul, iZ_lt, iZ_le, iZ_eq, lZ_lt, lZ_le, lZ_eq, iZ_64, iZ_N, inb_Z, if_pos, if_neg, ↓reduceIte, Bool.true_eq_false, Bool.false_eq_true, li7, li8, li12, li14, li34, li35, li36, li40, li101, li0, li1, li2, li3, li4, li5, li6, li9, li10, li16, li20, li23, li24, li25, li31, li33, li44, li48, li49, li50, li51, li57, li59, li60, li63, li69, li70, li71, li72, li74, li99, li100, li119, li126, li250, li296, li297, li298, li299, li300, li301, li302, li303, li606, li1515, li1818, li16384, li1048576, li2147483647, li10000, lj0, lj1, lj10000]) (s := (iZ 0, iZ 0)) ⟨iZ 0, rfl, IsFx.z _⟩
  rw [hF.uniq h2]
  exact h1
theorem l_onS (hm : Row f n N) (hc : Crd n N) (hn : 2 ≤ n ∧ n ≤ 10) (d0 : 0 ≤ bd) (d1 : bd ≤ 50) (MF : MK n F) (w : Int) : fL_ones (simS N n F w bd) = some (iZ (cnt N n F w bd)) := by
  have M := sim_MK hm hc ⟨hn.1, by omega⟩ d0 d1 MF w
  exact (l_ones (n := n) (by omega) hn.2 (fun j hj => M.hi j (by omega))).1
theorem l_leA (hm : Row f n N) (hc : Crd n N) (hn : 2 ≤ n ∧ n ≤ 10) (MF : MK n F) {many : Int} (hma : 2 ≤ many ∧ many ≤ 24) : ∃ y : Int, lL_isAhead_129 (iZ n) F (iZ many) f 36 (iZ 0) = some (iZ y) ∧ (y = 51 ∧ LBn N n F 0 many (-1) ∨ y ≤ 50 ∧ LBn N n F 0 many y) := by
  obtain ⟨r, h1, y, rfl, h2⟩ := lp_mu (f := bL_isAhead_129 (iZ n) F (iZ many) f 36) (fun st => ∃ k : Int, st = iZ k ∧ 0 ≤ k ∧ k ≤ 51 ∧ ∀ b : Int, 0 ≤ b → b < k → many < cnt N n F 0 b) (fun st => (51 - st.toInt).toNat) (fun r => ∃ y : Int, r = iZ y ∧ (y = 51 ∧ LBn N n F 0 many (-1) ∨ y ≤ 50 ∧ LBn N n F 0 many y)) (by
    rintro st ⟨k, rfl, k0, k1, hlo⟩
    by_cases e : k = 51
    · subst e
      refine Or.inr ⟨iZ 51, ?_, 51, rfl, Or.inl ⟨rfl, Or.inl ⟨rfl, fun b b0 b1 => hlo b b0 (by omega)⟩⟩⟩
      simp (disch := omega) only [bL_isAhead_129, gd_true, gd_dec, lt_def, bind_s, isb_0, isb_1, iZ_add, iZ_sub, iZ_mul, iZ_neg, lZ_add, lZ_sub, lZ_mul, iZ_lt, iZ_le, iZ_eq, lZ_lt, lZ_le, lZ_eq, iZ_64, iZ_N, inb_Z, if_pos, if_neg, ↓reduceIte, Bool.true_eq_false, Bool.false_eq_true, li7, li8, li12, li14, li34, li35, li36, li40, li101, li0, li1, li2, li3, li4, li5, li6, li9, li10, li16, li20, li23, li24, li25, li31, li33, li44, li48, li49, li50, li51, li57, li59, li60, li63, li69, li70, li71, li72, li74, li99, li100, li119, li126, li250, li296, li297, li298, li299, li300, li301, li302, li303, li606, li1515, li1818, li16384, li1048576, li2147483647, li10000, lj0, lj1, lj10000]
    · have es := (l_spl hm hc (by omega) k0 (show k ≤ 50 by omega) MF).1
      have eo := l_onS hm hc hn k0 (show k ≤ 50 by omega) MF 0
      have eS : simS N n F 0 k = splS N n F k := if_pos rfl
      rw [eS] at eo
      have bo := cnt_b hm hc ⟨hn.1, by omega⟩ k0 (show k ≤ 50 by omega) MF 0
      by_cases c : cnt N n F 0 k ≤ many
      · refine Or.inr ⟨iZ k, ?_, k, rfl, Or.inr ⟨by omega, Or.inr ⟨⟨k0, by omega⟩, c, hlo⟩⟩⟩
        simp (disch := omega) only [bL_isAhead_129, es, eo, gd_true, gd_dec, lt_def, bind_s, isb_0, isb_1, iZ_add, iZ_sub, iZ_mul, iZ_neg, lZ_add, lZ_sub, lZ_mul, iZ_lt, iZ_le, iZ_eq, lZ_lt, lZ_le, lZ_eq, iZ_64, iZ_N, inb_Z, if_pos, if_neg, ↓reduceIte, Bool.true_eq_false, Bool.false_eq_true, li7, li8, li12, li14, li34, li35, li36, li40, li101, li0, li1, li2, li3, li4, li5, li6, li9, li10, li16, li20, li23, li24, li25, li31, li33, li44, li48, li49, li50, li51, li57, li59, li60, li63, li69, li70, li71, li72, li74, li99, li100, li119, li126, li250, li296, li297, li298, li299, li300, li301, li302, li303, li606, li1515, li1818, li16384, li1048576, li2147483647, li10000, lj0, lj1, lj10000]
      · refine Or.inl ⟨iZ (k + 1), ?_, ⟨k + 1, rfl, by omega, by omega, fun b b0 b1 => ?_⟩, ?_⟩
        · simp (disch := omega) only [bL_isAhead_129, es, eo, gd_true, gd_dec, lt_def, bind_s, isb_0, isb_1, iZ_add, iZ_sub, iZ_mul, iZ_neg, lZ_add, lZ_sub, lZ_mul, iZ_lt, iZ_le, iZ_eq, lZ_lt, lZ_le, lZ_eq, iZ_64, iZ_N, inb_Z, if_pos, if_neg, ↓reduceIte, Bool.true_eq_false, Bool.false_eq_true, li7, li8, li12, li14, li34, li35, li36, li40, li101, li0, li1, li2, li3, li4, li5, li6, li9, li10, li16, li20, li23, li24, li25, li31, li33, li44, li48, li49, li50, li51, li57, li59, li60, li63, li69, li70, li71, li72, li74, li99, li100, li119, li126, li250, li296, li297, li298, li299, li300, li301, li302, li303, li606, li1515, li1818, li16384, li1048576, li2147483647, li10000, lj0, lj1, lj10000]
        · by_cases eb : b = k
          · rw [eb]; omega
          · exact hlo b b0 (by omega)
        · rw [iZ_T (by omega) (by omega), iZ_T (by omega) (by omega)]
          omega) (iZ 0) ⟨0, rfl, by omega, by omega, fun b b0 b1 => by omega⟩
  exact ⟨y, h1, h2⟩
theorem l_ahead (P : PS1 u n N K v) (hm : Row f n N) (hn : n ≤ 10) (x : Int32) (ps : PS) : ∃ ps' : PS, fL_isAhead (iZ 0) (iZ n) x 36 u ps f = some (iZ 1, ps') := by
  obtain ⟨⟨-, M, hc⟩, -, -⟩ := id P
  have n2 := M.1
  obtain ⟨F, hF, -, MF⟩ := q_fix P
  have hn2 : 2 ≤ n ∧ n ≤ 10 := ⟨n2.1, hn⟩
  obtain ⟨bd, e1, d0, d1'⟩ := l_low x (n := 51) (by omega) (by omega)
  have d1 : bd ≤ 50 := by omega
  obtain ⟨my, e2, y0, y1⟩ := l_low (x >>> (iZ 6 &&& iZ 31)) (n := 8) (by omega) (by omega)
  have ef := l_fixA P hm (by omega) hF
  have few := (l_few hm hc hn2 d0 d1 MF).1
  have spl := (l_spl hm hc (show n ≤ 12 by omega) d0 d1 MF).1
  have o0 := l_onS hm hc hn2 d0 d1 MF 0
  have o1 := l_onS hm hc hn2 d0 d1 MF 1
  have eS0 : ∀ b : Int, simS N n F 0 b = splS N n F b := fun b => if_pos rfl
  have eS1 : ∀ b : Int, simS N n F 1 b = fewS N n F b := fun b => if_neg (by decide)
  rw [eS0] at o0
  rw [eS1] at o1
  obtain ⟨ps1, i0⟩ := q_if P (by omega) hF d0 d1 (w := 0) (by omega) ps
  obtain ⟨ps2, i1⟩ := q_if P (by omega) hF d0 d1 (w := 1) (by omega) ps1
  have hma : 2 ≤ 2 + my ∧ 2 + my ≤ 24 := by omega
  obtain ⟨y, l0, hy⟩ := l_leA hm hc hn2 MF hma
  obtain ⟨z, ps3, m0, hz⟩ := q_least P (by omega) hF (w := 0) (by omega) hma ps2
  obtain ⟨t, ps4, m1, ht⟩ := q_least P (by omega) hF (w := 1) (by omega) hma ps3
  refine ⟨ps4, ?_⟩
  have e22 : (2 : Int32) + iZ my = iZ (2 + my) := by rw [li2, iZ_add]
  have fin : ((if (0 : Int32) ≤ iZ t then ((fL_fewest (iZ n) F (iZ t) 36 f).bind fun r59 => (fL_ones r59).bind fun r60 => if (2 + iZ my) < r60 then none else (((if iZ t = 0 then (some ()) else ((fL_fewest (iZ n) F (iZ t - 1) 36 f).bind fun r63 => (fL_ones r63).bind fun r64 => if r64 ≤ (2 + iZ my) then none else (some ()))) : Option Unit).bind fun _ => some 1)) else ((fL_fewest (iZ n) F 50 36 f).bind fun r65 => (fL_ones r65).bind fun r66 => if r66 ≤ (2 + iZ my) then none else (some 1))) : Option Int32) = some (iZ 1) := by
    rcases ht with ⟨rfl, h⟩ | ⟨⟨t0, t1⟩, h1, h2⟩
    · have g := (l_few hm hc hn2 (bd := 50) (by omega) (by omega) MF).1
      have o := l_onS hm hc hn2 (bd := 50) (by omega) (by omega) MF 1
      rw [eS1] at o
      have hlt := h 50 (by omega) (by omega)
      have bo := cnt_b hm hc ⟨hn2.1, by omega⟩ (bd := 50) (by omega) (by omega) MF 1
      simp (disch := omega) only [g, o, gd_true, gd_dec, lt_def, bind_s, isb_0, isb_1, iZ_add, iZ_sub, iZ_mul, iZ_neg, lZ_add, lZ_sub, lZ_mul, iZ_lt, iZ_le, iZ_eq, lZ_lt, lZ_le, lZ_eq, iZ_64, iZ_N, inb_Z, if_pos, if_neg, ↓reduceIte, Bool.true_eq_false, Bool.false_eq_true, li7, li8, li12, li14, li34, li35, li36, li40, li101, li0, li1, li2, li3, li4, li5, li6, li9, li10, li16, li20, li23, li24, li25, li31, li33, li44, li48, li49, li50, li51, li57, li59, li60, li63, li69, li70, li71, li72, li74, li99, li100, li119, li126, li250, li296, li297, li298, li299, li300, li301, li302, li303, li606, li1515, li1818, li16384, li1048576, li2147483647, li10000, lj0, lj1, lj10000]
    · have g := (l_few hm hc hn2 t0 t1 MF).1
      have o := l_onS hm hc hn2 t0 t1 MF 1
      rw [eS1] at o
      have bo := cnt_b hm hc ⟨hn2.1, by omega⟩ t0 t1 MF 1
      by_cases e : t = 0
      · subst e
        simp (disch := omega) only [g, o, gd_true, gd_dec, lt_def, bind_s, isb_0, isb_1, iZ_add, iZ_sub, iZ_mul, iZ_neg, lZ_add, lZ_sub, lZ_mul, iZ_lt, iZ_le, iZ_eq, lZ_lt, lZ_le, lZ_eq, iZ_64, iZ_N, inb_Z, if_pos, if_neg, ↓reduceIte, Bool.true_eq_false, Bool.false_eq_true, li7, li8, li12, li14, li34, li35, li36, li40, li101, li0, li1, li2, li3, li4, li5, li6, li9, li10, li16, li20, li23, li24, li25, li31, li33, li44, li48, li49, li50, li51, li57, li59, li60, li63, li69, li70, li71, li72, li74, li99, li100, li119, li126, li250, li296, li297, li298, li299, li300, li301, li302, li303, li606, li1515, li1818, li16384, li1048576, li2147483647, li10000, lj0, lj1, lj10000]
      · have g' := (l_few hm hc hn2 (bd := t - 1) (by omega) (by omega) MF).1
        have o' := l_onS hm hc hn2 (bd := t - 1) (by omega) (by omega) MF 1
        rw [eS1] at o'
        have bo' := cnt_b hm hc ⟨hn2.1, by omega⟩ (bd := t - 1) (by omega) (by omega) MF 1
        have hlt := h2 (t - 1) (by omega) (by omega)
        simp (disch := omega) only [g, o, g', o', gd_true, gd_dec, lt_def, bind_s, isb_0, isb_1, iZ_add, iZ_sub, iZ_mul, iZ_neg, lZ_add, lZ_sub, lZ_mul, iZ_lt, iZ_le, iZ_eq, lZ_lt, lZ_le, lZ_eq, iZ_64, iZ_N, inb_Z, if_pos, if_neg, ↓reduceIte, Bool.true_eq_false, Bool.false_eq_true, li7, li8, li12, li14, li34, li35, li36, li40, li101, li0, li1, li2, li3, li4, li5, li6, li9, li10, li16, li20, li23, li24, li25, li31, li33, li44, li48, li49, li50, li51, li57, li59, li60, li63, li69, li70, li71, li72, li74, li99, li100, li119, li126, li250, li296, li297, li298, li299, li300, li301, li302, li303, li606, li1515, li1818, li16384, li1048576, li2147483647, li10000, lj0, lj1, lj10000]
  have hv : ((if iZ y ≤ 50 then (some (iZ y)) else (some (-1))) : Option Int32) = some (iZ z) := by
    rcases hy with ⟨rfl, h⟩ | ⟨h0, h⟩
    · have : z = -1 := hz.uniq h
      subst this
      exact if_neg (show ¬ iZ 51 ≤ iZ 50 by decide)
    · have : z = y := hz.uniq h
      subst this
      have c0 : -1 ≤ z := by
        rcases h with ⟨e, -⟩ | ⟨q, -⟩
        · omega
        · omega
      exact if_pos (show iZ z ≤ iZ 50 by rw [iZ_le (by omega) (by omega) (by omega) (by omega)]; exact h0)
  rw [← e22] at l0 m0 m1
  unfold fL_isAhead
  refine bI ef ?_
  refine bI e1 ?_
  refine bI few ?_
  refine bI i0 ?_
  refine bI spl ?_
  refine bI o0 ?_
  refine iT rfl ?_
  refine bI i1 ?_
  refine bI o1 ?_
  refine iT rfl ?_
  refine bI e2 ?_
  refine bI l0 ?_
  refine bI m0 ?_
  refine bI hv ?_
  refine iT rfl ?_
  refine bI m1 ?_
  refine bI fin ?_
  rfl
end LE
