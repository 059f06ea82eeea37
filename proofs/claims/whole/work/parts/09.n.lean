section
/-! stroke texts: the reference's reader -/
def PR (u : MS) (p wr rd : Int) (f : Nat → Int32) : MS := (u.1, u.2.1, u.2.2.1, u.2.2.2.1, u.2.2.2.2.1, u.2.2.2.2.2.1, u.2.2.2.2.2.2.1, u.2.2.2.2.2.2.2.1, u.2.2.2.2.2.2.2.2.1, u.2.2.2.2.2.2.2.2.2.1, u.2.2.2.2.2.2.2.2.2.2.1, u.2.2.2.2.2.2.2.2.2.2.2.1, f, iZ rd, iZ p, iZ wr)
def PQ (u : MS) (p wr rd : Int32) (f : Nat → Int32) : MS := (u.1, u.2.1, u.2.2.1, u.2.2.2.1, u.2.2.2.2.1, u.2.2.2.2.2.1, u.2.2.2.2.2.2.1, u.2.2.2.2.2.2.2.1, u.2.2.2.2.2.2.2.2.1, u.2.2.2.2.2.2.2.2.2.1, u.2.2.2.2.2.2.2.2.2.2.1, u.2.2.2.2.2.2.2.2.2.2.2.1, f, rd, p, wr)
theorem PQ_1 (u : MS) (v : Int32) : M_s_place u v = PQ u v (M_isWrong u) (M_reads u) (M_read u) := rfl
theorem PQ_2 (u : MS) (p w r v : Int32) (f : Nat → Int32) : M_s_isWrong (PQ u p w r f) v = PQ u p v r f := rfl
theorem PQ_3 (u : MS) (p w r v : Int32) (f : Nat → Int32) : M_s_reads (PQ u p w r f) v = PQ u p w v f := rfl
theorem PR_0 (u : MS) : PQ u 0 0 0 (M_read u) = PR u 0 0 0 (M_read u) := rfl
theorem r_fE (u : MS) : fX6_findError u = (fX6_takePoint (PR u 0 0 0 (M_read u))).bind fun u4 => lX6_findError_19 u4 := by
  unfold fX6_findError
  rw [lt_def, PQ_1, lt_def, PQ_2, lt_def, PQ_3, PR_0]
theorem bI {α β : Type} {x : Option α} {a : α} {f : α → Option β} {r : Option β} (h : x = some a) (k : f a = r) : x.bind f = r := by
  rw [h]
  exact k
section N0
variable {u : MS} {p wr rd q : Int} {f f' : Nat → Int32}
theorem PR_w : M_isWrong (PR u p wr rd f) = iZ wr := rfl
theorem PR_p : M_place (PR u p wr rd f) = iZ p := rfl
theorem PR_rd : M_reads (PR u p wr rd f) = iZ rd := rfl
theorem PR_f : M_read (PR u p wr rd f) = f := rfl
theorem PR_len : M_length (PR u p wr rd f) = M_length u := rfl
theorem PR_text : M_text (PR u p wr rd f) = M_text u := rfl
theorem PR_sw : M_s_isWrong (PR u p wr rd f) (iZ q) = PR u p q rd f := rfl
theorem PR_sp : M_s_place (PR u p wr rd f) (iZ q) = PR u q wr rd f := rfl
theorem PR_srd : M_s_reads (PR u p wr rd f) (iZ q) = PR u p wr q f := rfl
theorem PR_sf : M_s_read (PR u p wr rd f) f' = PR u p wr rd f' := rfl
theorem PR_same : sameM u (PR u p wr rd f) := ⟨rfl, rfl, rfl, rfl, rfl, rfl, rfl, rfl⟩
end N0
def Txt (u : MS) (L : Int) (tx : Int → Int) : Prop := (0 ≤ L ∧ L ≤ 70) ∧ M_length u = iZ L ∧ ∀ k : Int, 0 ≤ k → k < L → M_text u k.toNat = iZ (tx k) ∧ 33 ≤ tx k ∧ tx k ≤ 126
section N1
variable {u : MS} {L p rd : Int} {tx : Int → Int} {f : Nat → Int32}
def sg (L : Int) (tx : Int → Int) (p : Int) : Int := if p < L then tx p else 0
theorem sg_b (X : Txt u L tx) (p0 : 0 ≤ p) : 0 ≤ sg L tx p ∧ sg L tx p ≤ 126 := by
  unfold sg
  by_cases h : p < L
  · rw [if_pos h]
    have := (X.2.2 p p0 h).2
    omega
  · rw [if_neg h]
    omega
theorem r_sign {wr : Int} (X : Txt u L tx) (p0 : 0 ≤ p) (p1 : p ≤ L) : fX6_sign (PR u p wr rd f) = some (iZ (sg L tx p)) := by
  obtain ⟨⟨l0, l1⟩, hl, ht⟩ := X
  unfold fX6_sign sg
  by_cases h : p < L
  · rw [if_pos h]
    have e := (ht p p0 h).1
    simp (disch := omega) only [hl, PR_text, e, PR_w, PR_p, PR_rd, PR_f, PR_len, PR_sw, PR_sp, PR_srd, PR_sf, gd_true, gd_dec, lt_def, bind_s, isb_0, isb_1, iZ_add, iZ_sub, iZ_mul, iZ_neg, lZ_add, lZ_sub, lZ_mul, iZ_lt, iZ_le, iZ_eq, lZ_lt, lZ_le, lZ_eq, iZ_64, iZ_N, inb_Z, if_pos, if_neg, ↓reduceIte, Bool.true_eq_false, Bool.false_eq_true, li0, li1, li2, li3, li4, li5, li6, li9, li10, li16, li20, li23, li24, li25, li31, li33, li44, li48, li49, li50, li51, li57, li59, li60, li63, li69, li70, li71, li72, li74, li99, li100, li119, li126, li250, li296, li297, li298, li299, li300, li301, li302, li303, li606, li1515, li1818, li16384, li1048576, li2147483647, li10000, lj0, lj1, lj10000]
  · rw [if_neg h]
    simp (disch := omega) only [hl, PR_w, PR_p, PR_rd, PR_f, PR_len, PR_sw, PR_sp, PR_srd, PR_sf, gd_true, gd_dec, lt_def, bind_s, isb_0, isb_1, iZ_add, iZ_sub, iZ_mul, iZ_neg, lZ_add, lZ_sub, lZ_mul, iZ_lt, iZ_le, iZ_eq, lZ_lt, lZ_le, lZ_eq, iZ_64, iZ_N, inb_Z, if_pos, if_neg, ↓reduceIte, Bool.true_eq_false, Bool.false_eq_true, li0, li1, li2, li3, li4, li5, li6, li9, li10, li16, li20, li23, li24, li25, li31, li33, li44, li48, li49, li50, li51, li57, li59, li60, li63, li69, li70, li71, li72, li74, li99, li100, li119, li126, li250, li296, li297, li298, li299, li300, li301, li302, li303, li606, li1515, li1818, li16384, li1048576, li2147483647, li10000, lj0, lj1, lj10000]
theorem r_takeY : fX6_take (iZ 1) (PR u p 0 rd f) = some (PR u (p + 1) 0 rd f) := by
  unfold fX6_take
  simp (disch := omega) only [PR_w, PR_p, PR_rd, PR_f, PR_len, PR_sw, PR_sp, PR_srd, PR_sf, gd_true, gd_dec, lt_def, bind_s, isb_0, isb_1, iZ_add, iZ_sub, iZ_mul, iZ_neg, lZ_add, lZ_sub, lZ_mul, iZ_lt, iZ_le, iZ_eq, lZ_lt, lZ_le, lZ_eq, iZ_64, iZ_N, inb_Z, if_pos, if_neg, ↓reduceIte, Bool.true_eq_false, Bool.false_eq_true, li0, li1, li2, li3, li4, li5, li6, li9, li10, li16, li20, li23, li24, li25, li31, li33, li44, li48, li49, li50, li51, li57, li59, li60, li63, li69, li70, li71, li72, li74, li99, li100, li119, li126, li250, li296, li297, li298, li299, li300, li301, li302, li303, li606, li1515, li1818, li16384, li1048576, li2147483647, li10000, lj0, lj1, lj10000]
theorem r_takeN : fX6_take (iZ 0) (PR u p 0 rd f) = some (PR u p 1 rd f) := by
  unfold fX6_take
  simp (disch := omega) only [Int.add_zero, PR_w, PR_p, PR_rd, PR_f, PR_len, PR_sw, PR_sp, PR_srd, PR_sf, gd_true, gd_dec, lt_def, bind_s, isb_0, isb_1, iZ_add, iZ_sub, iZ_mul, iZ_neg, lZ_add, lZ_sub, lZ_mul, iZ_lt, iZ_le, iZ_eq, lZ_lt, lZ_le, lZ_eq, iZ_64, iZ_N, inb_Z, if_pos, if_neg, ↓reduceIte, Bool.true_eq_false, Bool.false_eq_true, li0, li1, li2, li3, li4, li5, li6, li9, li10, li16, li20, li23, li24, li25, li31, li33, li44, li48, li49, li50, li51, li57, li59, li60, li63, li69, li70, li71, li72, li74, li99, li100, li119, li126, li250, li296, li297, li298, li299, li300, li301, li302, li303, li606, li1515, li1818, li16384, li1048576, li2147483647, li10000, lj0, lj1, lj10000]
theorem r_takeW (b : Int32) : fX6_take b (PR u p 1 rd f) = some (PR u p 1 rd f) := by
  unfold fX6_take
  simp (disch := omega) only [Int.add_zero, PR_w, PR_p, PR_rd, PR_f, PR_len, PR_sw, PR_sp, PR_srd, PR_sf, gd_true, gd_dec, lt_def, bind_s, isb_0, isb_1, iZ_add, iZ_sub, iZ_mul, iZ_neg, lZ_add, lZ_sub, lZ_mul, iZ_lt, iZ_le, iZ_eq, lZ_lt, lZ_le, lZ_eq, iZ_64, iZ_N, inb_Z, if_pos, if_neg, ↓reduceIte, Bool.true_eq_false, Bool.false_eq_true, li0, li1, li2, li3, li4, li5, li6, li9, li10, li16, li20, li23, li24, li25, li31, li33, li44, li48, li49, li50, li51, li57, li59, li60, li63, li69, li70, li71, li72, li74, li99, li100, li119, li126, li250, li296, li297, li298, li299, li300, li301, li302, li303, li606, li1515, li1818, li16384, li1048576, li2147483647, li10000, lj0, lj1, lj10000]
theorem r_in {a b c : Int} (ha : -1000000 ≤ a ∧ a ≤ 1000000) (hb : -1000000 ≤ b ∧ b ≤ 1000000) (hc : -1000000 ≤ c ∧ c ≤ 1000000) : fX6_in (iZ a) (iZ b) (iZ c) = some (iZ (bi (decide (b ≤ a ∧ a ≤ c)))) := by
  unfold fX6_in
  by_cases h1 : a < b
  · rw [decide_eq_false (by omega)]
    simp (disch := omega) only [PR_w, PR_p, PR_rd, PR_f, PR_len, PR_sw, PR_sp, PR_srd, PR_sf, gd_true, gd_dec, lt_def, bind_s, isb_0, isb_1, iZ_add, iZ_sub, iZ_mul, iZ_neg, lZ_add, lZ_sub, lZ_mul, iZ_lt, iZ_le, iZ_eq, lZ_lt, lZ_le, lZ_eq, iZ_64, iZ_N, inb_Z, if_pos, if_neg, ↓reduceIte, Bool.true_eq_false, Bool.false_eq_true, li0, li1, li2, li3, li4, li5, li6, li9, li10, li16, li20, li23, li24, li25, li31, li33, li44, li48, li49, li50, li51, li57, li59, li60, li63, li69, li70, li71, li72, li74, li99, li100, li119, li126, li250, li296, li297, li298, li299, li300, li301, li302, li303, li606, li1515, li1818, li16384, li1048576, li2147483647, li10000, lj0, lj1, lj10000] <;> rfl
  · by_cases h2 : c < a
    · rw [decide_eq_false (by omega)]
      simp (disch := omega) only [PR_w, PR_p, PR_rd, PR_f, PR_len, PR_sw, PR_sp, PR_srd, PR_sf, gd_true, gd_dec, lt_def, bind_s, isb_0, isb_1, iZ_add, iZ_sub, iZ_mul, iZ_neg, lZ_add, lZ_sub, lZ_mul, iZ_lt, iZ_le, iZ_eq, lZ_lt, lZ_le, lZ_eq, iZ_64, iZ_N, inb_Z, if_pos, if_neg, ↓reduceIte, Bool.true_eq_false, Bool.false_eq_true, li0, li1, li2, li3, li4, li5, li6, li9, li10, li16, li20, li23, li24, li25, li31, li33, li44, li48, li49, li50, li51, li57, li59, li60, li63, li69, li70, li71, li72, li74, li99, li100, li119, li126, li250, li296, li297, li298, li299, li300, li301, li302, li303, li606, li1515, li1818, li16384, li1048576, li2147483647, li10000, lj0, lj1, lj10000] <;> rfl
    · rw [decide_eq_true (by omega)]
      simp (disch := omega) only [PR_w, PR_p, PR_rd, PR_f, PR_len, PR_sw, PR_sp, PR_srd, PR_sf, gd_true, gd_dec, lt_def, bind_s, isb_0, isb_1, iZ_add, iZ_sub, iZ_mul, iZ_neg, lZ_add, lZ_sub, lZ_mul, iZ_lt, iZ_le, iZ_eq, lZ_lt, lZ_le, lZ_eq, iZ_64, iZ_N, inb_Z, if_pos, if_neg, ↓reduceIte, Bool.true_eq_false, Bool.false_eq_true, li0, li1, li2, li3, li4, li5, li6, li9, li10, li16, li20, li23, li24, li25, li31, li33, li44, li48, li49, li50, li51, li57, li59, li60, li63, li69, li70, li71, li72, li74, li99, li100, li119, li126, li250, li296, li297, li298, li299, li300, li301, li302, li303, li606, li1515, li1818, li16384, li1048576, li2147483647, li10000, lj0, lj1, lj10000] <;> rfl
/-- the digits behind the first one -/
theorem r_numL {s0 : AS} (X : Txt u L tx) {pt x y c most : Int} {P : Int → Int} (hmo : pt = 2 ∧ most = 20 ∨ pt ≠ 2 ∧ most = 99) (p0 : 0 ≤ p) {q v : Int} (q0 : p < q) (q1 : q ≤ L) (hr : rn tx s0 q = some (pt, q - p, v, x, y, c, P)) (v0 : 0 ≤ v) (v1 : v ≤ most) (v2 : pt = 2 → 1 ≤ v) : ∃ q' v' : Int, p < q' ∧ q' ≤ L ∧ lX6_takeNumber_19 (iZ most) (iZ v) (PR u q 0 rd f) = some (iZ v', PR u q' 0 rd f) ∧ rn tx s0 q' = some (pt, q' - p, v', x, y, c, P) ∧ (0 ≤ v' ∧ v' ≤ most ∧ (pt = 2 → 1 ≤ v')) ∧ (q' < L → 48 ≤ tx q' → tx q' ≤ 57 → rdA (tx q') (pt, q' - p, v', x, y, c, P) = none) := by
  have XL := X.1
  obtain ⟨r, g1, q', v', h1, h2, rfl, h3, h4, h5⟩ := lp_mu (f := bX6_takeNumber_19 (iZ most)) (fun s => ∃ q v : Int, p < q ∧ q ≤ L ∧ s = (iZ v, PR u q 0 rd f) ∧ rn tx s0 q = some (pt, q - p, v, x, y, c, P) ∧ 0 ≤ v ∧ v ≤ most ∧ (pt = 2 → 1 ≤ v)) (fun s => (L - (M_place s.2).toInt).toNat) (fun r => ∃ q' v' : Int, p < q' ∧ q' ≤ L ∧ r = (iZ v', PR u q' 0 rd f) ∧ rn tx s0 q' = some (pt, q' - p, v', x, y, c, P) ∧ (0 ≤ v' ∧ v' ≤ most ∧ (pt = 2 → 1 ≤ v')) ∧ (q' < L → 48 ≤ tx q' → tx q' ≤ 57 → rdA (tx q') (pt, q' - p, v', x, y, c, P) = none)) (by
    rintro s ⟨q, v, q0, q1, rfl, hr, v0, v1, v2⟩
    have hsg := r_sign (rd := rd) (f := f) (wr := 0) X (show 0 ≤ q by omega) q1
    have hsb := sg_b X (show 0 ≤ q by omega)
    by_cases hv : v ≤ 0
    · right
      refine ⟨(iZ v, PR u q 0 rd f), ?_, q, v, q0, q1, rfl, hr, ⟨v0, v1, v2⟩, fun h a b => ?_⟩
      · simp (disch := omega) only [bX6_takeNumber_19, PR_w, PR_p, PR_rd, PR_f, PR_len, PR_sw, PR_sp, PR_srd, PR_sf, gd_true, gd_dec, lt_def, bind_s, isb_0, isb_1, iZ_add, iZ_sub, iZ_mul, iZ_neg, lZ_add, lZ_sub, lZ_mul, iZ_lt, iZ_le, iZ_eq, lZ_lt, lZ_le, lZ_eq, iZ_64, iZ_N, inb_Z, if_pos, if_neg, ↓reduceIte, Bool.true_eq_false, Bool.false_eq_true, li0, li1, li2, li3, li4, li5, li6, li9, li10, li16, li20, li23, li24, li25, li31, li33, li44, li48, li49, li50, li51, li57, li59, li60, li63, li69, li70, li71, li72, li74, li99, li100, li119, li126, li250, li296, li297, li298, li299, li300, li301, li302, li303, li606, li1515, li1818, li16384, li1048576, li2147483647, li10000, lj0, lj1, lj10000]
      · unfold rdA rdD
        rw [if_neg (by omega), if_neg (by omega)]
        show (if (q - p ≠ 0 ∧ v = 0) then none else _) = none
        rw [if_pos (by omega)]
    · have hin := r_in (a := sg L tx q) (b := 48) (c := 57) (by omega) (by omega) (by omega)
      by_cases hd : 48 ≤ sg L tx q ∧ sg L tx q ≤ 57
      · rw [decide_eq_true hd, bi_tr] at hin
        have hq : q < L := Classical.byContradiction fun h => by
          unfold sg at hd
          rw [if_neg h] at hd
          omega
        have es : sg L tx q = tx q := by unfold sg; rw [if_pos hq]
        rw [es] at hsg hin hd hsb
        have hst : rdA (tx q) (pt, q - p, v, x, y, c, P) = rdD (tx q) (pt, q - p, v, x, y, c, P) := by
          unfold rdA
          rw [if_neg (by omega), if_neg (by omega)]
        by_cases hm : most < 10 * v + tx q - 48
        · right
          refine ⟨(iZ v, PR u q 0 rd f), ?_, q, v, q0, q1, rfl, hr, ⟨v0, v1, v2⟩, fun h a b => ?_⟩
          · simp (disch := omega) only [bX6_takeNumber_19, hsg, hin, PR_w, PR_p, PR_rd, PR_f, PR_len, PR_sw, PR_sp, PR_srd, PR_sf, gd_true, gd_dec, lt_def, bind_s, isb_0, isb_1, iZ_add, iZ_sub, iZ_mul, iZ_neg, lZ_add, lZ_sub, lZ_mul, iZ_lt, iZ_le, iZ_eq, lZ_lt, lZ_le, lZ_eq, iZ_64, iZ_N, inb_Z, if_pos, if_neg, ↓reduceIte, Bool.true_eq_false, Bool.false_eq_true, li0, li1, li2, li3, li4, li5, li6, li9, li10, li16, li20, li23, li24, li25, li31, li33, li44, li48, li49, li50, li51, li57, li59, li60, li63, li69, li70, li71, li72, li74, li99, li100, li119, li126, li250, li296, li297, li298, li299, li300, li301, li302, li303, li606, li1515, li1818, li16384, li1048576, li2147483647, li10000, lj0, lj1, lj10000]
          · rw [hst]
            unfold rdD
            rcases hmo with ⟨e1, e2⟩ | ⟨e1, e2⟩
            · simp (disch := omega) only [if_pos, if_neg, ↓reduceIte]
            · simp (disch := omega) only [if_pos, if_neg, ↓reduceIte]
        · left
          refine ⟨(iZ (10 * v + tx q - 48), PR u (q + 1) 0 rd f), ?_, ⟨q + 1, 10 * v + tx q - 48, by omega, by omega, rfl, ?_, by omega, by omega, by omega⟩, ?_⟩
          · simp (disch := omega) only [bX6_takeNumber_19, hsg, hin, PR_w, PR_p, PR_rd, PR_f, PR_len, PR_sw, PR_sp, PR_srd, PR_sf, gd_true, gd_dec, lt_def, bind_s, isb_0, isb_1, iZ_add, iZ_sub, iZ_mul, iZ_neg, lZ_add, lZ_sub, lZ_mul, iZ_lt, iZ_le, iZ_eq, lZ_lt, lZ_le, lZ_eq, iZ_64, iZ_N, inb_Z, if_pos, if_neg, ↓reduceIte, Bool.true_eq_false, Bool.false_eq_true, li0, li1, li2, li3, li4, li5, li6, li9, li10, li16, li20, li23, li24, li25, li31, li33, li44, li48, li49, li50, li51, li57, li59, li60, li63, li69, li70, li71, li72, li74, li99, li100, li119, li126, li250, li296, li297, li298, li299, li300, li301, li302, li303, li606, li1515, li1818, li16384, li1048576, li2147483647, li10000, lj0, lj1, lj10000]
          · rw [rn_s (by omega), hr]
            show rdA (tx q) _ = _
            rw [hst]
            have e9 : 10 * v + (tx q - 48) = 10 * v + tx q - 48 := by omega
            have e8 : q - p + 1 = q + 1 - p := by omega
            unfold rdD
            rcases hmo with ⟨e1, e2⟩ | ⟨e1, e2⟩
            · simp (disch := omega) only [if_pos, if_neg, ↓reduceIte, e9, e8]
            · simp (disch := omega) only [if_pos, if_neg, ↓reduceIte, e9, e8]
          · show (L - (iZ (q + 1)).toInt).toNat < (L - (iZ q).toInt).toNat
            rw [iZ_T (by omega) (by omega), iZ_T (by omega) (by omega)]
            omega
      · rw [decide_eq_false hd, bi_fa] at hin
        right
        refine ⟨(iZ v, PR u q 0 rd f), ?_, q, v, q0, q1, rfl, hr, ⟨v0, v1, v2⟩, fun h a b => ?_⟩
        · simp (disch := omega) only [bX6_takeNumber_19, hsg, hin, PR_w, PR_p, PR_rd, PR_f, PR_len, PR_sw, PR_sp, PR_srd, PR_sf, gd_true, gd_dec, lt_def, bind_s, isb_0, isb_1, iZ_add, iZ_sub, iZ_mul, iZ_neg, lZ_add, lZ_sub, lZ_mul, iZ_lt, iZ_le, iZ_eq, lZ_lt, lZ_le, lZ_eq, iZ_64, iZ_N, inb_Z, if_pos, if_neg, ↓reduceIte, Bool.true_eq_false, Bool.false_eq_true, li0, li1, li2, li3, li4, li5, li6, li9, li10, li16, li20, li23, li24, li25, li31, li33, li44, li48, li49, li50, li51, li57, li59, li60, li63, li69, li70, li71, li72, li74, li99, li100, li119, li126, li250, li296, li297, li298, li299, li300, li301, li302, li303, li606, li1515, li1818, li16384, li1048576, li2147483647, li10000, lj0, lj1, lj10000]
        · unfold sg at hd
          rw [if_pos h] at hd
          omega) (iZ v, PR u q 0 rd f) ⟨q, v, q0, q1, rfl, hr, v0, v1, v2⟩
  exact ⟨q', v', h1, h2, g1, h3, h4, h5⟩
/-- a number -/
theorem r_num {s0 : AS} (X : Txt u L tx) {pt x y c lo most : Int} {P : Int → Int} (hmo : pt = 2 ∧ lo = 1 ∧ most = 20 ∨ pt ≠ 2 ∧ lo = 0 ∧ most = 99) (p0 : 0 ≤ p) (p1 : p ≤ L) (hr : rn tx s0 p = some (pt, 0, 0, x, y, c, P)) : (∃ v : Int32, fX6_takeNumber (iZ lo) (iZ most) (PR u p 0 rd f) = some (v, PR u p 1 rd f) ∧ (p = L ∨ rdA (tx p) (pt, 0, 0, x, y, c, P) = none)) ∨ ∃ q' v' : Int, p < q' ∧ q' ≤ L ∧ fX6_takeNumber (iZ lo) (iZ most) (PR u p 0 rd f) = some (iZ v', PR u q' 0 rd f) ∧ rn tx s0 q' = some (pt, q' - p, v', x, y, c, P) ∧ (0 ≤ v' ∧ v' ≤ most ∧ (pt = 2 → 1 ≤ v')) ∧ (q' < L → 48 ≤ tx q' → tx q' ≤ 57 → rdA (tx q') (pt, q' - p, v', x, y, c, P) = none) := by
  have XL := X.1
  have hsg := r_sign (rd := rd) (f := f) (wr := 0) X p0 p1
  have hsb := sg_b X p0
  have hin := r_in (a := sg L tx p - 48) (b := lo) (c := 9) (by omega) (by omega) (by omega)
  by_cases hd : lo ≤ sg L tx p - 48 ∧ sg L tx p - 48 ≤ 9
  · right
    rw [decide_eq_true hd, bi_tr] at hin
    have hq : p < L := Classical.byContradiction fun h => by
      unfold sg at hd
      rw [if_neg h] at hd
      omega
    have es : sg L tx p = tx p := by unfold sg; rw [if_pos hq]
    rw [es] at hsg hin hd hsb
    have h1 : rn tx s0 (p + 1) = some (pt, p + 1 - p, tx p - 48, x, y, c, P) := by
      rw [rn_s p0, hr]
      show rdA (tx p) _ = _
      unfold rdA rdD
      have e9 : 10 * 0 + (tx p - 48) = tx p - 48 := by omega
      have e8 : p + 1 - p = 0 + 1 := by omega
      rw [if_neg (by omega), if_neg (by omega), e8]
      rcases hmo with ⟨e1, e2, e3⟩ | ⟨e1, e2, e3⟩
      · simp (disch := omega) only [if_pos, if_neg, ↓reduceIte, e9]
      · simp (disch := omega) only [if_pos, if_neg, ↓reduceIte, e9]
    obtain ⟨q', v', a1, a2, a3, a4, a5, a6⟩ := r_numL (rd := rd) (f := f) X (most := most) (by omega) p0 (show p < p + 1 by omega) (by omega) h1 (by omega) (by omega) (by omega)
    have tk := r_takeY (u := u) (p := p) (rd := rd) (f := f)
    refine ⟨q', v', a1, a2, ?_, a4, a5, a6⟩
    unfold fX6_takeNumber
    simp (disch := omega) only [hsg, hin, tk, a3, PR_w, PR_p, PR_rd, PR_f, PR_len, PR_sw, PR_sp, PR_srd, PR_sf, gd_true, gd_dec, lt_def, bind_s, isb_0, isb_1, iZ_add, iZ_sub, iZ_mul, iZ_neg, lZ_add, lZ_sub, lZ_mul, iZ_lt, iZ_le, iZ_eq, lZ_lt, lZ_le, lZ_eq, iZ_64, iZ_N, inb_Z, if_pos, if_neg, ↓reduceIte, Bool.true_eq_false, Bool.false_eq_true, li0, li1, li2, li3, li4, li5, li6, li9, li10, li16, li20, li23, li24, li25, li31, li33, li44, li48, li49, li50, li51, li57, li59, li60, li63, li69, li70, li71, li72, li74, li99, li100, li119, li126, li250, li296, li297, li298, li299, li300, li301, li302, li303, li606, li1515, li1818, li16384, li1048576, li2147483647, li10000, lj0, lj1, lj10000]
  · left
    rw [decide_eq_false hd, bi_fa] at hin
    have tk := r_takeN (u := u) (p := p) (rd := rd) (f := f)
    refine ⟨iZ (sg L tx p - 48), ?_, ?_⟩
    · have hl : lX6_takeNumber_19 (iZ most) (iZ (sg L tx p - 48)) (PR u p 1 rd f) = some (iZ (sg L tx p - 48), PR u p 1 rd f) := by
        refine lp_out ?_
        simp (disch := omega) only [bX6_takeNumber_19, PR_w, PR_p, PR_rd, PR_f, PR_len, PR_sw, PR_sp, PR_srd, PR_sf, gd_true, gd_dec, lt_def, bind_s, isb_0, isb_1, iZ_add, iZ_sub, iZ_mul, iZ_neg, lZ_add, lZ_sub, lZ_mul, iZ_lt, iZ_le, iZ_eq, lZ_lt, lZ_le, lZ_eq, iZ_64, iZ_N, inb_Z, if_pos, if_neg, ↓reduceIte, Bool.true_eq_false, Bool.false_eq_true, li0, li1, li2, li3, li4, li5, li6, li9, li10, li16, li20, li23, li24, li25, li31, li33, li44, li48, li49, li50, li51, li57, li59, li60, li63, li69, li70, li71, li72, li74, li99, li100, li119, li126, li250, li296, li297, li298, li299, li300, li301, li302, li303, li606, li1515, li1818, li16384, li1048576, li2147483647, li10000, lj0, lj1, lj10000]
      unfold fX6_takeNumber
      simp (disch := omega) only [hsg, hin, tk, hl, PR_w, PR_p, PR_rd, PR_f, PR_len, PR_sw, PR_sp, PR_srd, PR_sf, gd_true, gd_dec, lt_def, bind_s, isb_0, isb_1, iZ_add, iZ_sub, iZ_mul, iZ_neg, lZ_add, lZ_sub, lZ_mul, iZ_lt, iZ_le, iZ_eq, lZ_lt, lZ_le, lZ_eq, iZ_64, iZ_N, inb_Z, if_pos, if_neg, ↓reduceIte, Bool.true_eq_false, Bool.false_eq_true, li0, li1, li2, li3, li4, li5, li6, li9, li10, li16, li20, li23, li24, li25, li31, li33, li44, li48, li49, li50, li51, li57, li59, li60, li63, li69, li70, li71, li72, li74, li99, li100, li119, li126, li250, li296, li297, li298, li299, li300, li301, li302, li303, li606, li1515, li1818, li16384, li1048576, li2147483647, li10000, lj0, lj1, lj10000]
    · by_cases hq : p < L
      · right
        unfold sg at hd
        rw [if_pos hq] at hd
        unfold rdA rdS rdD
        by_cases h1 : tx p < 48
        · simp (disch := omega) only [if_pos, if_neg, ↓reduceIte]
        · by_cases h2 : 57 < tx p
          · simp (disch := omega) only [if_pos, if_neg, ↓reduceIte]
          · rcases hmo with ⟨e1, e2, e3⟩ | ⟨e1, e2, e3⟩
            · simp (disch := omega) only [if_pos, if_neg, ↓reduceIte]
            · omega
      · left
        omega
def CpA (st : AS) : Prop := st.2.1 ≠ 0 ∧ st.1 ≠ 0
/-- a point -/
theorem r_point {s0 : AS} (X : Txt u L tx) {x y c : Int} {P : Int → Int} (hf : Row f c P) (c0 : 0 ≤ c) (c1 : c ≤ 23) (p0 : 0 ≤ p) (p1 : p ≤ L) (hr : rn tx s0 p = some (0, 0, 0, x, y, c, P)) : (∃ (e : Int) (st : AS), p ≤ e ∧ IsEr tx s0 L e st ∧ ¬ CpA st ∧ fX6_takePoint (PR u p 0 c f) = some (PR u e 1 c f)) ∨ ∃ (q pt dg nm x y : Int) (f' : Nat → Int32), p < q ∧ q ≤ L ∧ rn tx s0 q = some (pt, dg, nm, x, y, c, P) ∧ CpA (pt, dg, nm, x, y, c, P) ∧ Row f' (c + 1) (endP pt nm x y c P) ∧ (q < L → tx q ≠ 59 → rdA (tx q) (pt, dg, nm, x, y, c, P) = none) ∧ fX6_takePoint (PR u p 0 c f) = some (PR u q 0 (c + 1) f') := by
  have XL := X.1
  have w1 : ¬ (iZ 1 : Int32) = 0 := by decide
  have w0 : (iZ 0 : Int32) = 0 := rfl
  have ite44 : ∀ s : Int, ∃ v4 : Int32, (if iZ s = 44 then some (1 : Int32) else some 0) = some v4 := fun s => by
    by_cases h : iZ s = 44
    · exact ⟨1, if_pos h⟩
    · exact ⟨0, if_neg h⟩
  have e44 : ∀ s : Int, s = 44 → iZ s = 44 := fun s h => by rw [h]; rfl
  have n44 : ∀ s : Int, 0 ≤ s → s ≤ 126 → s ≠ 44 → ¬ iZ s = 44 := fun s h0 h1 h => by
    rw [li44, iZ_eq (by omega) (by omega) (by omega) (by omega)]
    exact h
  have e119 : ∀ s : Int, s = 119 → iZ s = 119 := fun s h => by rw [h]; rfl
  have n119 : ∀ s : Int, 0 ≤ s → s ≤ 126 → s ≠ 119 → ¬ iZ s = 119 := fun s h0 h1 h => by
    rw [li119, iZ_eq (by omega) (by omega) (by omega) (by omega)]
    exact h
  have store : ∀ (q v v2 v3 : Int), gd (inb (3 * (M_reads (PR u q 0 c f))) 72) (lt (M_s_read (PR u q 0 c f) (upd (M_read (PR u q 0 c f)) (3 * (M_reads (PR u q 0 c f))).toNatClampNeg (iZ v))) fun u27 => gd (inb ((3 * (M_reads u27)) + 1) 72) (lt (M_s_read u27 (upd (M_read u27) ((3 * (M_reads u27)) + 1).toNatClampNeg (iZ v2))) fun u28 => gd (inb ((3 * (M_reads u28)) + 2) 72) (lt (M_s_read u28 (upd (M_read u28) ((3 * (M_reads u28)) + 2).toNatClampNeg (iZ v3))) fun u29 => lt (M_s_reads u29 ((M_reads u29) + 1)) fun u30 => some u30))) = some (PR u q 0 (c + 1) (mup f (3 * c) v v2 v3)) := by
    intro q v v2 v3
    clear hr X
    simp (disch := omega) only [PR_w, PR_p, PR_rd, PR_f, PR_len, PR_sw, PR_sp, PR_srd, PR_sf, gd_true, gd_dec, lt_def, bind_s, isb_0, isb_1, iZ_add, iZ_sub, iZ_mul, iZ_neg, lZ_add, lZ_sub, lZ_mul, iZ_lt, iZ_le, iZ_eq, lZ_lt, lZ_le, lZ_eq, iZ_64, iZ_N, inb_Z, if_pos, if_neg, ↓reduceIte, Bool.true_eq_false, Bool.false_eq_true, li0, li1, li2, li3, li4, li5, li6, li9, li10, li16, li20, li23, li24, li25, li31, li33, li44, li48, li49, li50, li51, li57, li59, li60, li63, li69, li70, li71, li72, li74, li99, li100, li119, li126, li250, li296, li297, li298, li299, li300, li301, li302, li303, li606, li1515, li1818, li16384, li1048576, li2147483647, li10000, lj0, lj1, lj10000] <;> rfl
  rcases r_num (rd := c) (f := f) X (pt := 0) (lo := 0) (most := 99) (by omega) p0 p1 hr with ⟨v, h1, h2⟩ | ⟨q, v, a1, a2, a3, a4, a5, a6⟩
  · left
    refine ⟨p, _, Int.le_refl p, ⟨⟨p0, p1⟩, hr, h2⟩, fun h => h.1 rfl, ?_⟩
    have hsg := r_sign (rd := c) (f := f) (wr := 1) X p0 p1
    obtain ⟨v4, h4⟩ := ite44 (sg L tx p)
    unfold fX6_takePoint
    refine bI h1 ?_
    refine bI hsg ?_
    refine bI h4 ?_
    refine bI (r_takeW v4) ?_
    refine bI (a := (0, PR u p 1 c f)) (if_neg w1) ?_
    refine bI (a := (5, PR u p 1 c f)) (if_neg w1) ?_
    exact bI (a := PR u p 1 c f) (if_neg w1) rfl
  · have hsg := r_sign (rd := c) (f := f) (wr := 0) X (show 0 ≤ q by omega) a2
    have hsb := sg_b X (show 0 ≤ q by omega)
    by_cases h44 : sg L tx q = 44
    · have hq : q < L := Classical.byContradiction fun h => by
        unfold sg at h44
        rw [if_neg h] at h44
        omega
      have es : sg L tx q = tx q := by unfold sg; rw [if_pos hq]
      have tk := r_takeY (u := u) (p := q) (rd := c) (f := f)
      have hr2 : rn tx s0 (q + 1) = some (1, 0, 0, v, y, c, P) := by
        rw [rn_s (by omega), a4]
        show rdA (tx q) _ = _
        unfold rdA rdS
        simp (disch := omega) only [if_pos, if_neg, ↓reduceIte]
      rcases r_num (rd := c) (f := f) X (pt := 1) (lo := 0) (most := 99) (by omega) (show 0 ≤ q + 1 by omega) (by omega) hr2 with ⟨v2, h1, h2⟩ | ⟨q2, v2, b1, b2, b3, b4, b5, b6⟩
      · left
        refine ⟨q + 1, _, by omega, ⟨⟨by omega, by omega⟩, hr2, h2⟩, fun h => h.1 rfl, ?_⟩
        unfold fX6_takePoint
        refine bI a3 ?_
        refine bI hsg ?_
        refine bI (a := iZ 1) (if_pos (e44 _ h44)) ?_
        refine bI tk ?_
        refine bI (a := (v2, PR u (q + 1) 1 c f)) ((if_pos w0).trans (bI h1 rfl)) ?_
        refine bI (a := (5, PR u (q + 1) 1 c f)) (if_neg w1) ?_
        exact bI (a := PR u (q + 1) 1 c f) (if_neg w1) rfl
      · have hsg2 := r_sign (rd := c) (f := f) (wr := 0) X (show 0 ≤ q2 by omega) b2
        have hsb2 := sg_b X (show 0 ≤ q2 by omega)
        by_cases h119 : sg L tx q2 = 119
        · have hq2 : q2 < L := Classical.byContradiction fun h => by
            unfold sg at h119
            rw [if_neg h] at h119
            omega
          have es2 : sg L tx q2 = tx q2 := by unfold sg; rw [if_pos hq2]
          have hr3 : rn tx s0 (q2 + 1) = some (2, 0, 0, v, v2, c, P) := by
            rw [rn_s (by omega), b4]
            show rdA (tx q2) _ = _
            unfold rdA rdS
            simp (disch := omega) only [if_pos, if_neg, ↓reduceIte]
          have ep : M_s_place (PR u q2 0 c f) ((M_place (PR u q2 0 c f)) + 1) = PR u (q2 + 1) 0 c f := by
            rw [PR_p, li1, iZ_add, PR_sp]
          rcases r_num (rd := c) (f := f) X (pt := 2) (lo := 1) (most := 20) (by omega) (show 0 ≤ q2 + 1 by omega) (by omega) hr3 with ⟨v3, h1, h2⟩ | ⟨q3, v3, d1, d2, d3, d4, d5, d6⟩
          · left
            rw [← ep] at h1
            refine ⟨q2 + 1, _, by omega, ⟨⟨by omega, by omega⟩, hr3, h2⟩, fun h => h.1 rfl, ?_⟩
            unfold fX6_takePoint
            refine bI a3 ?_
            refine bI hsg ?_
            refine bI (a := iZ 1) (if_pos (e44 _ h44)) ?_
            refine bI tk ?_
            refine bI (a := (iZ v2, PR u q2 0 c f)) ((if_pos w0).trans (bI b3 rfl)) ?_
            refine bI (a := (v3, PR u (q2 + 1) 1 c f)) ((if_pos w0).trans (bI hsg2 ((if_pos (e119 _ h119)).trans (bI h1 rfl)))) ?_
            exact bI (a := PR u (q2 + 1) 1 c f) (if_neg w1) rfl
          · right
            rw [← ep] at d3
            refine ⟨q3, 2, q3 - (q2 + 1), v3, v, v2, mup f (3 * c) v v2 v3, by omega, d2, d4, ⟨show q3 - (q2 + 1) ≠ 0 by omega, show (2 : Int) ≠ 0 by omega⟩, ?_, fun h h59 => ?_, ?_⟩
            · unfold endP
              rw [if_pos rfl]
              exact hf.add c0 v v2 v3
            · by_cases hdg : 48 ≤ tx q3 ∧ tx q3 ≤ 57
              · exact d6 h hdg.1 hdg.2
              · clear hr X hr2 hr3 a4 b4 d4 h44 h119 ep
                unfold rdA rdS
                by_cases h9 : tx q3 < 48
                · by_cases h8 : tx q3 = 44
                  · simp (disch := omega) only [if_pos, if_neg, ↓reduceIte]
                  · simp (disch := omega) only [if_pos, if_neg, ↓reduceIte]
                · by_cases h8 : tx q3 = 119
                  · simp (disch := omega) only [if_pos, if_neg, ↓reduceIte]
                  · simp (disch := omega) only [if_pos, if_neg, ↓reduceIte]
            · unfold fX6_takePoint
              refine bI a3 ?_
              refine bI hsg ?_
              refine bI (a := iZ 1) (if_pos (e44 _ h44)) ?_
              refine bI tk ?_
              refine bI (a := (iZ v2, PR u q2 0 c f)) ((if_pos w0).trans (bI b3 rfl)) ?_
              refine bI (a := (iZ v3, PR u q3 0 c f)) ((if_pos w0).trans (bI hsg2 ((if_pos (e119 _ h119)).trans (bI d3 rfl)))) ?_
              exact bI ((if_pos w0).trans (store q3 v v2 v3)) rfl
        · right
          refine ⟨q2, 1, q2 - (q + 1), v2, v, y, mup f (3 * c) v v2 5, by omega, b2, b4, ⟨show q2 - (q + 1) ≠ 0 by omega, show (1 : Int) ≠ 0 by omega⟩, ?_, fun h h59 => ?_, ?_⟩
          · unfold endP
            rw [if_neg (by omega)]
            exact hf.add c0 v v2 5
          · have es2 : sg L tx q2 = tx q2 := by unfold sg; rw [if_pos h]
            by_cases hdg : 48 ≤ tx q2 ∧ tx q2 ≤ 57
            · exact b6 h hdg.1 hdg.2
            · unfold rdA rdS
              by_cases h9 : tx q2 < 48
              · by_cases h8 : tx q2 = 44
                · simp (disch := omega) only [if_pos, if_neg, ↓reduceIte]
                · simp (disch := omega) only [if_pos, if_neg, ↓reduceIte]
              · simp (disch := omega) only [if_pos, if_neg, ↓reduceIte]
          · unfold fX6_takePoint
            refine bI a3 ?_
            refine bI hsg ?_
            refine bI (a := iZ 1) (if_pos (e44 _ h44)) ?_
            refine bI tk ?_
            refine bI (a := (iZ v2, PR u q2 0 c f)) ((if_pos w0).trans (bI b3 rfl)) ?_
            refine bI (a := (iZ 5, PR u q2 0 c f)) ((if_pos w0).trans (bI hsg2 (if_neg (n119 _ hsb2.1 hsb2.2 h119)))) ?_
            exact bI ((if_pos w0).trans (store q2 v v2 5)) rfl
    · have tk := r_takeN (u := u) (p := q) (rd := c) (f := f)
      left
      refine ⟨q, _, by omega, ⟨⟨by omega, a2⟩, a4, ?_⟩, fun h => h.2 rfl, ?_⟩
      · by_cases hq : q < L
        · right
          have es : sg L tx q = tx q := by unfold sg; rw [if_pos hq]
          by_cases hdg : 48 ≤ tx q ∧ tx q ≤ 57
          · exact a6 hq hdg.1 hdg.2
          · unfold rdA rdS
            by_cases h9 : tx q < 48
            · simp (disch := omega) only [if_pos, if_neg, ↓reduceIte]
            · by_cases h8 : tx q = 119
              · simp (disch := omega) only [if_pos, if_neg, ↓reduceIte]
              · by_cases h7 : tx q = 59
                · simp (disch := omega) only [if_pos, if_neg, ↓reduceIte]
                · simp (disch := omega) only [if_pos, if_neg, ↓reduceIte]
        · left
          omega
      · unfold fX6_takePoint
        refine bI a3 ?_
        refine bI hsg ?_
        refine bI (a := iZ 0) (if_neg (n44 _ hsb.1 hsb.2 h44)) ?_
        refine bI tk ?_
        refine bI (a := (0, PR u q 1 c f)) (if_neg w1) ?_
        refine bI (a := (5, PR u q 1 c f)) (if_neg w1) ?_
        exact bI (a := PR u q 1 c f) (if_neg w1) rfl
end N1
/-- the whole text -/
def FinE (tx : Int → Int) (s0 : AS) (L : Int) (u : MS) (q : Int32 × MS) : Prop := ∃ (e : Int) (st : AS), IsEr tx s0 L e st ∧ ((q.1 = iZ (-1) ∧ e = L ∧ CpA st ∧ 1 ≤ st.2.2.2.2.2.1 ∧ ∃ f' : Nat → Int32, q.2 = PR u L 0 (st.2.2.2.2.2.1 + 1) f' ∧ Row f' (st.2.2.2.2.2.1 + 1) (endP st.1 st.2.2.1 st.2.2.2.1 st.2.2.2.2.1 st.2.2.2.2.2.1 st.2.2.2.2.2.2)) ∨ (q.1 = iZ e ∧ ¬ (e = L ∧ CpA st ∧ 1 ≤ st.2.2.2.2.2.1) ∧ ∃ (a b c : Int) (f' : Nat → Int32), q.2 = PR u a b c f'))
theorem r_error {u : MS} {L : Int} {tx : Int → Int} (X : Txt u L tx) {x0 y0 : Int} : ∃ q : Int32 × MS, fX6_findError u = some q ∧ FinE tx (0, 0, 0, x0, y0, 0, fun _ => 0) L u q := by
  have XL := X.1
  have B0 : OkA 0 (0, 0, 0, x0, y0, 0, fun _ => 0) := ⟨by omega, by omega, by omega, by omega, by omega, by omega, by omega, by omega, fun k a b => by omega⟩
  have key := lp_mu (f := bX6_findError_19) (fun w => (∃ (e c : Int) (f : Nat → Int32) (st : AS), IsEr tx (0, 0, 0, x0, y0, 0, fun _ => 0) L e st ∧ ¬ (e = L ∧ CpA st ∧ 1 ≤ st.2.2.2.2.2.1) ∧ w = PR u e 1 c f) ∨ ∃ (q pt dg nm x y c : Int) (P : Int → Int) (f : Nat → Int32), (0 ≤ q ∧ q ≤ L) ∧ rn tx (0, 0, 0, x0, y0, 0, fun _ => 0) q = some (pt, dg, nm, x, y, c, P) ∧ CpA (pt, dg, nm, x, y, c, P) ∧ Row f (c + 1) (endP pt nm x y c P) ∧ (q < L → tx q ≠ 59 → rdA (tx q) (pt, dg, nm, x, y, c, P) = none) ∧ w = PR u q 0 (c + 1) f) (fun w => if M_isWrong w = iZ 0 then (L - (M_place w).toInt).toNat + 1 else 0) (FinE tx (0, 0, 0, x0, y0, 0, fun _ => 0) L u) (by
    rintro w (⟨e, c, f, st, h1, h2, rfl⟩ | ⟨q, pt, dg, nm, x, y, c, P, f, ⟨q0, q1⟩, hr, hcp, hf, hn, rfl⟩)
    · right
      refine ⟨(iZ e, PR u e 1 c f), ?_, e, st, h1, Or.inr ⟨rfl, h2, e, 1, c, f, rfl⟩⟩
      simp (disch := omega) only [bX6_findError_19, PR_w, PR_p, PR_rd, PR_f, PR_len, PR_sw, PR_sp, PR_srd, PR_sf, gd_true, gd_dec, lt_def, bind_s, isb_0, isb_1, iZ_add, iZ_sub, iZ_mul, iZ_neg, lZ_add, lZ_sub, lZ_mul, iZ_lt, iZ_le, iZ_eq, lZ_lt, lZ_le, lZ_eq, iZ_64, iZ_N, inb_Z, if_pos, if_neg, ↓reduceIte, Bool.true_eq_false, Bool.false_eq_true, li0, li1, li2, li3, li4, li5, li6, li9, li10, li16, li20, li23, li24, li25, li31, li33, li44, li48, li49, li50, li51, li57, li59, li60, li63, li69, li70, li71, li72, li74, li99, li100, li119, li126, li250, li296, li297, li298, li299, li300, li301, li302, li303, li606, li1515, li1818, li16384, li1048576, li2147483647, li10000, lj0, lj1, lj10000]
    · have Bq := rn_Ok B0 q0 hr
      have b8 : 0 ≤ c ∧ c ≤ 23 := Bq.2.2.2.2.2.2.2.1
      have hlen := X.2.1
      have hsg := r_sign (rd := c + 1) (f := f) (wr := 0) X q0 q1
      have hsb := sg_b X q0
      have tkN := r_takeN (u := u) (p := q) (rd := c + 1) (f := f)
      have tkY := r_takeY (u := u) (p := q) (rd := c + 1) (f := f)
      by_cases hq : q = L
      · have hz : sg L tx q = 0 := by unfold sg; rw [if_neg (by omega)]
        rw [hz] at hsg
        by_cases hc : c = 0
        · left
          refine ⟨PR u q 1 (c + 1) f, ?_, Or.inl ⟨q, c + 1, f, _, ⟨⟨q0, q1⟩, hr, Or.inl hq⟩, fun h => absurd (show (1 : Int) ≤ c from h.2.2) (by omega), rfl⟩, ?_⟩
          · simp (disch := omega) only [bX6_findError_19, hlen, hsg, tkN, PR_w, PR_p, PR_rd, PR_f, PR_len, PR_sw, PR_sp, PR_srd, PR_sf, gd_true, gd_dec, lt_def, bind_s, isb_0, isb_1, iZ_add, iZ_sub, iZ_mul, iZ_neg, lZ_add, lZ_sub, lZ_mul, iZ_lt, iZ_le, iZ_eq, lZ_lt, lZ_le, lZ_eq, iZ_64, iZ_N, inb_Z, if_pos, if_neg, ↓reduceIte, Bool.true_eq_false, Bool.false_eq_true, li0, li1, li2, li3, li4, li5, li6, li9, li10, li16, li20, li23, li24, li25, li31, li33, li44, li48, li49, li50, li51, li57, li59, li60, li63, li69, li70, li71, li72, li74, li99, li100, li119, li126, li250, li296, li297, li298, li299, li300, li301, li302, li303, li606, li1515, li1818, li16384, li1048576, li2147483647, li10000, lj0, lj1, lj10000]
          · show (if iZ 1 = iZ 0 then _ else 0) < (if iZ 0 = iZ 0 then _ else 0)
            rw [if_neg (by decide), if_pos rfl]
            omega
        · right
          refine ⟨(iZ (-1), PR u q 0 (c + 1) f), ?_, q, _, ⟨⟨q0, q1⟩, hr, Or.inl hq⟩, Or.inl ⟨rfl, hq, hcp, show (1 : Int) ≤ c by omega, f, by rw [hq], hf⟩⟩
          simp (disch := omega) only [bX6_findError_19, hlen, PR_w, PR_p, PR_rd, PR_f, PR_len, PR_sw, PR_sp, PR_srd, PR_sf, gd_true, gd_dec, lt_def, bind_s, isb_0, isb_1, iZ_add, iZ_sub, iZ_mul, iZ_neg, lZ_add, lZ_sub, lZ_mul, iZ_lt, iZ_le, iZ_eq, lZ_lt, lZ_le, lZ_eq, iZ_64, iZ_N, inb_Z, if_pos, if_neg, ↓reduceIte, Bool.true_eq_false, Bool.false_eq_true, li0, li1, li2, li3, li4, li5, li6, li9, li10, li16, li20, li23, li24, li25, li31, li33, li44, li48, li49, li50, li51, li57, li59, li60, li63, li69, li70, li71, li72, li74, li99, li100, li119, li126, li250, li296, li297, li298, li299, li300, li301, li302, li303, li606, li1515, li1818, li16384, li1048576, li2147483647, li10000, lj0, lj1, lj10000]
      · have es : sg L tx q = tx q := by unfold sg; rw [if_pos (by omega)]
        rw [es] at hsg hsb
        by_cases h59 : tx q = 59
        · by_cases hc : c + 1 < 24
          · have hr2 : rn tx (0, 0, 0, x0, y0, 0, fun _ => 0) (q + 1) = some (0, 0, 0, x, y, c + 1, endP pt nm x y c P) := by
              rw [rn_s q0, hr]
              show rdA (tx q) _ = _
              have h1 : dg ≠ 0 := hcp.1
              have h2 : pt ≠ 0 := hcp.2
              unfold rdA rdS
              simp (disch := omega) only [if_pos, if_neg, ↓reduceIte]
            left
            rcases r_point (u := u) (f := f) X hf (by omega) (by omega) (show 0 ≤ q + 1 by omega) (by omega) hr2 with ⟨e, st, h1, h2, h3, h4⟩ | ⟨q2, pt2, dg2, nm2, x2, y2, f2, h1, h2, h3, h4, h5, h6, h7⟩
            · refine ⟨PR u e 1 (c + 1) f, ?_, Or.inl ⟨e, c + 1, f, st, h2, fun h => h3 h.2.1, rfl⟩, ?_⟩
              · simp (disch := omega) only [bX6_findError_19, hlen, hsg, tkY, h4, PR_w, PR_p, PR_rd, PR_f, PR_len, PR_sw, PR_sp, PR_srd, PR_sf, gd_true, gd_dec, lt_def, bind_s, isb_0, isb_1, iZ_add, iZ_sub, iZ_mul, iZ_neg, lZ_add, lZ_sub, lZ_mul, iZ_lt, iZ_le, iZ_eq, lZ_lt, lZ_le, lZ_eq, iZ_64, iZ_N, inb_Z, if_pos, if_neg, ↓reduceIte, Bool.true_eq_false, Bool.false_eq_true, li0, li1, li2, li3, li4, li5, li6, li9, li10, li16, li20, li23, li24, li25, li31, li33, li44, li48, li49, li50, li51, li57, li59, li60, li63, li69, li70, li71, li72, li74, li99, li100, li119, li126, li250, li296, li297, li298, li299, li300, li301, li302, li303, li606, li1515, li1818, li16384, li1048576, li2147483647, li10000, lj0, lj1, lj10000]
              · show (if iZ 1 = iZ 0 then _ else 0) < (if iZ 0 = iZ 0 then _ else 0)
                rw [if_neg (by decide), if_pos rfl]
                omega
            · refine ⟨PR u q2 0 (c + 1 + 1) f2, ?_, Or.inr ⟨q2, pt2, dg2, nm2, x2, y2, c + 1, endP pt nm x y c P, f2, by omega, h3, h4, h5, h6, rfl⟩, ?_⟩
              · simp (disch := omega) only [bX6_findError_19, hlen, hsg, tkY, h7, PR_w, PR_p, PR_rd, PR_f, PR_len, PR_sw, PR_sp, PR_srd, PR_sf, gd_true, gd_dec, lt_def, bind_s, isb_0, isb_1, iZ_add, iZ_sub, iZ_mul, iZ_neg, lZ_add, lZ_sub, lZ_mul, iZ_lt, iZ_le, iZ_eq, lZ_lt, lZ_le, lZ_eq, iZ_64, iZ_N, inb_Z, if_pos, if_neg, ↓reduceIte, Bool.true_eq_false, Bool.false_eq_true, li0, li1, li2, li3, li4, li5, li6, li9, li10, li16, li20, li23, li24, li25, li31, li33, li44, li48, li49, li50, li51, li57, li59, li60, li63, li69, li70, li71, li72, li74, li99, li100, li119, li126, li250, li296, li297, li298, li299, li300, li301, li302, li303, li606, li1515, li1818, li16384, li1048576, li2147483647, li10000, lj0, lj1, lj10000]
              · show (if iZ 0 = iZ 0 then (L - (iZ q2).toInt).toNat + 1 else 0) < (if iZ 0 = iZ 0 then (L - (iZ q).toInt).toNat + 1 else 0)
                rw [if_pos rfl, if_pos rfl, iZ_T (by omega) (by omega), iZ_T (by omega) (by omega)]
                omega
          · left
            refine ⟨PR u q 1 (c + 1) f, ?_, Or.inl ⟨q, c + 1, f, _, ⟨⟨q0, q1⟩, hr, Or.inr ?_⟩, fun h => hq h.1, rfl⟩, ?_⟩
            · simp (disch := omega) only [bX6_findError_19, hlen, hsg, tkN, PR_w, PR_p, PR_rd, PR_f, PR_len, PR_sw, PR_sp, PR_srd, PR_sf, gd_true, gd_dec, lt_def, bind_s, isb_0, isb_1, iZ_add, iZ_sub, iZ_mul, iZ_neg, lZ_add, lZ_sub, lZ_mul, iZ_lt, iZ_le, iZ_eq, lZ_lt, lZ_le, lZ_eq, iZ_64, iZ_N, inb_Z, if_pos, if_neg, ↓reduceIte, Bool.true_eq_false, Bool.false_eq_true, li0, li1, li2, li3, li4, li5, li6, li9, li10, li16, li20, li23, li24, li25, li31, li33, li44, li48, li49, li50, li51, li57, li59, li60, li63, li69, li70, li71, li72, li74, li99, li100, li119, li126, li250, li296, li297, li298, li299, li300, li301, li302, li303, li606, li1515, li1818, li16384, li1048576, li2147483647, li10000, lj0, lj1, lj10000]
            · have h1 : dg ≠ 0 := hcp.1
              have h2 : pt ≠ 0 := hcp.2
              unfold rdA rdS
              simp (disch := omega) only [if_pos, if_neg, ↓reduceIte]
            · show (if iZ 1 = iZ 0 then _ else 0) < (if iZ 0 = iZ 0 then _ else 0)
              rw [if_neg (by decide), if_pos rfl]
              omega
        · left
          refine ⟨PR u q 1 (c + 1) f, ?_, Or.inl ⟨q, c + 1, f, _, ⟨⟨q0, q1⟩, hr, Or.inr (hn (by omega) h59)⟩, fun h => hq h.1, rfl⟩, ?_⟩
          · simp (disch := omega) only [bX6_findError_19, hlen, hsg, tkN, PR_w, PR_p, PR_rd, PR_f, PR_len, PR_sw, PR_sp, PR_srd, PR_sf, gd_true, gd_dec, lt_def, bind_s, isb_0, isb_1, iZ_add, iZ_sub, iZ_mul, iZ_neg, lZ_add, lZ_sub, lZ_mul, iZ_lt, iZ_le, iZ_eq, lZ_lt, lZ_le, lZ_eq, iZ_64, iZ_N, inb_Z, if_pos, if_neg, ↓reduceIte, Bool.true_eq_false, Bool.false_eq_true, li0, li1, li2, li3, li4, li5, li6, li9, li10, li16, li20, li23, li24, li25, li31, li33, li44, li48, li49, li50, li51, li57, li59, li60, li63, li69, li70, li71, li72, li74, li99, li100, li119, li126, li250, li296, li297, li298, li299, li300, li301, li302, li303, li606, li1515, li1818, li16384, li1048576, li2147483647, li10000, lj0, lj1, lj10000]
          · show (if iZ 1 = iZ 0 then _ else 0) < (if iZ 0 = iZ 0 then _ else 0)
            rw [if_neg (by decide), if_pos rfl]
            omega)
  have hf0 : Row (M_read u) 0 (fun _ => 0) := fun j a b => by omega
  rcases r_point (u := u) (f := M_read u) X hf0 (Int.le_refl 0) (by omega) (Int.le_refl 0) XL.1 (rn_0 tx (0, 0, 0, x0, y0, 0, fun _ => 0)) with ⟨e, st, h1, h2, h3, h4⟩ | ⟨q2, pt2, dg2, nm2, x2, y2, f2, h1, h2, h3, h4, h5, h6, h7⟩
  · obtain ⟨r, k1, k2⟩ := key (PR u e 1 0 (M_read u)) (Or.inl ⟨e, 0, M_read u, st, h2, fun h => h3 h.2.1, rfl⟩)
    refine ⟨r, ?_, k2⟩
    rw [r_fE, h4]
    exact k1
  · obtain ⟨r, k1, k2⟩ := key (PR u q2 0 (0 + 1) f2) (Or.inr ⟨q2, pt2, dg2, nm2, x2, y2, 0, fun _ => 0, f2, by omega, h3, h4, h5, h6, rfl⟩)
    refine ⟨r, ?_, k2⟩
    rw [r_fE, h7]
    exact k1
end
