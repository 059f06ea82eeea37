section
/-! stroke texts: what is read so far -/
abbrev AS : Type := Int × Int × Int × Int × Int × Int × (Int → Int)
def endP (pt nm x y c : Int) (P : Int → Int) : Int → Int := if pt = 2 then setN P c x y nm else setN P c x nm 5
def rdS (t : Int) : AS → Option AS
  | (pt, dg, nm, x, y, c, P) => if dg = 0 then none else if t = 44 then (if pt = 0 then some (1, 0, 0, nm, y, c, P) else none) else if t = 119 then (if pt = 1 then some (2, 0, 0, x, nm, c, P) else none) else if t = 59 then (if pt = 0 then none else if c + 1 < 24 then some (0, 0, 0, x, y, c + 1, endP pt nm x y c P) else none) else none
def rdD (t : Int) : AS → Option AS
  | (pt, dg, nm, x, y, c, P) => if dg ≠ 0 ∧ nm = 0 then none else if pt = 2 then (if 10 * nm + (t - 48) < 1 then none else if 10 * nm + (t - 48) ≤ 20 then some (pt, dg + 1, 10 * nm + (t - 48), x, y, c, P) else none) else if 10 * nm + (t - 48) ≤ 99 then some (pt, dg + 1, 10 * nm + (t - 48), x, y, c, P) else none
def rdA (t : Int) (st : AS) : Option AS := if t < 48 then rdS t st else if 57 < t then rdS t st else rdD t st
def OkA (k : Int) : AS → Prop
  | (pt, dg, nm, x, y, c, P) => (0 ≤ pt ∧ pt ≤ 2) ∧ (0 ≤ dg ∧ dg ≤ k) ∧ (0 ≤ nm ∧ nm ≤ 99) ∧ (dg = 0 → nm = 0) ∧ (pt = 2 → nm ≤ 20 ∧ (dg ≠ 0 → 1 ≤ nm)) ∧ (1 ≤ pt → 0 ≤ x ∧ x ≤ 99) ∧ (pt = 2 → 0 ≤ y ∧ y ≤ 99) ∧ (0 ≤ c ∧ c ≤ 23) ∧ Crd c P
theorem setN_at {P : Int → Int} {c a b w j : Int} : setN P c a b w j = if j = 3 * c then a else if j = 3 * c + 1 then b else if j = 3 * c + 2 then w else P j := rfl
theorem Row.add {m : Nat → Int32} {c : Int} {P : Int → Int} (h : Row m c P) (c0 : 0 ≤ c) (a b w : Int) : Row (mup m (3 * c) a b w) (c + 1) (setN P c a b w) := fun j j0 j1 => by
  rw [mup_at (by omega) j0, setN_at]
  by_cases e0 : j = 3 * c
  · rw [if_pos e0, if_pos e0]
  · by_cases e1 : j = 3 * c + 1
    · rw [if_neg e0, if_neg e0, if_pos e1, if_pos e1]
    · by_cases e2 : j = 3 * c + 2
      · rw [if_neg e0, if_neg e0, if_neg e1, if_neg e1, if_pos e2, if_pos e2]
      · rw [if_neg e0, if_neg e0, if_neg e1, if_neg e1, if_neg e2, if_neg e2]
        exact h j j0 (by omega)
theorem Crd.add {c : Int} {P : Int → Int} (h : Crd c P) {a b w : Int} (ha : 0 ≤ a ∧ a ≤ 99) (hb : 0 ≤ b ∧ b ≤ 99) (hw : 1 ≤ w ∧ w ≤ 20) : Crd (c + 1) (setN P c a b w) := fun k k0 k1 => by
  by_cases e : k = c
  · subst e
    rw [setN_at, setN_at, setN_at, if_pos rfl, if_neg (by omega), if_pos rfl, if_neg (by omega), if_neg (by omega), if_pos rfl]
    exact ⟨ha, hb, hw⟩
  · rw [setN_at, setN_at, setN_at, if_neg (by omega), if_neg (by omega), if_neg (by omega), if_neg (by omega), if_neg (by omega), if_neg (by omega), if_neg (by omega), if_neg (by omega), if_neg (by omega)]
    exact h k k0 (by omega)
theorem endC {k pt dg nm x y c : Int} {P : Int → Int} (B : OkA k (pt, dg, nm, x, y, c, P)) (hp : pt ≠ 0) (hd : dg ≠ 0) : Crd (c + 1) (endP pt nm x y c P) := by
  obtain ⟨b1, b2, b3, b4, b5, b6, b7, b8, b9⟩ := B
  unfold endP
  by_cases e : pt = 2
  · rw [if_pos e]
    exact b9.add (b6 (by omega)) (b7 e) ⟨(b5 e).2 hd, (b5 e).1⟩
  · rw [if_neg e]
    exact b9.add (b6 (by omega)) b3 ⟨by omega, by omega⟩
theorem rdS_ok {k t : Int} {st st' : AS} (B : OkA k st) (h : rdS t st = some st') : OkA (k + 1) st' := by
  obtain ⟨pt, dg, nm, x, y, c, P⟩ := st
  obtain ⟨b1, b2, b3, b4, b5, b6, b7, b8, b9⟩ := id B
  unfold rdS at h
  dsimp only at h
  by_cases hd : dg = 0
  · rw [if_pos hd] at h
    cases h
  rw [if_neg hd] at h
  by_cases h44 : t = 44
  · rw [if_pos h44] at h
    by_cases hp : pt = 0
    · rw [if_pos hp] at h
      cases h
      exact ⟨by omega, by omega, by omega, by omega, by omega, fun _ => b3, by omega, b8, b9⟩
    · rw [if_neg hp] at h
      cases h
  rw [if_neg h44] at h
  by_cases h119 : t = 119
  · rw [if_pos h119] at h
    by_cases hp : pt = 1
    · rw [if_pos hp] at h
      cases h
      exact ⟨by omega, by omega, by omega, by omega, by omega, fun _ => b6 (by omega), fun _ => b3, b8, b9⟩
    · rw [if_neg hp] at h
      cases h
  rw [if_neg h119] at h
  by_cases h59 : t = 59
  · rw [if_pos h59] at h
    by_cases hp : pt = 0
    · rw [if_pos hp] at h
      cases h
    rw [if_neg hp] at h
    by_cases hc : c + 1 < 24
    · rw [if_pos hc] at h
      cases h
      exact ⟨by omega, by omega, by omega, by omega, by omega, by omega, by omega, by omega, endC B hp hd⟩
    · rw [if_neg hc] at h
      cases h
  · rw [if_neg h59] at h
    cases h
theorem rdD_ok {k t : Int} {st st' : AS} (B : OkA k st) (h48 : 48 ≤ t) (h57 : t ≤ 57) (h : rdD t st = some st') : OkA (k + 1) st' := by
  obtain ⟨pt, dg, nm, x, y, c, P⟩ := st
  obtain ⟨b1, b2, b3, b4, b5, b6, b7, b8, b9⟩ := id B
  unfold rdD at h
  dsimp only at h
  by_cases hz : dg ≠ 0 ∧ nm = 0
  · rw [if_pos hz] at h
    cases h
  rw [if_neg hz] at h
  by_cases hp : pt = 2
  · rw [if_pos hp] at h
    by_cases h1 : 10 * nm + (t - 48) < 1
    · rw [if_pos h1] at h
      cases h
    rw [if_neg h1] at h
    by_cases h2 : 10 * nm + (t - 48) ≤ 20
    · rw [if_pos h2] at h
      cases h
      exact ⟨b1, by omega, by omega, by omega, by omega, b6, b7, b8, b9⟩
    · rw [if_neg h2] at h
      cases h
  · rw [if_neg hp] at h
    by_cases h2 : 10 * nm + (t - 48) ≤ 99
    · rw [if_pos h2] at h
      cases h
      exact ⟨b1, by omega, by omega, by omega, by omega, b6, b7, b8, b9⟩
    · rw [if_neg h2] at h
      cases h
theorem rdA_ok {k t : Int} {st st' : AS} (B : OkA k st) (h : rdA t st = some st') : OkA (k + 1) st' := by
  unfold rdA at h
  by_cases h1 : t < 48
  · rw [if_pos h1] at h
    exact rdS_ok B h
  rw [if_neg h1] at h
  by_cases h2 : 57 < t
  · rw [if_pos h2] at h
    exact rdS_ok B h
  rw [if_neg h2] at h
  exact rdD_ok B (by omega) (by omega) h
/-- the state behind the first k characters -/
def runN (tx : Int → Int) (s0 : AS) : Nat → Option AS
  | 0 => some s0
  | k + 1 => (runN tx s0 k).bind (rdA (tx k))
def rn (tx : Int → Int) (s0 : AS) (k : Int) : Option AS := runN tx s0 k.toNat
theorem rn_0 (tx : Int → Int) (s0 : AS) : rn tx s0 0 = some s0 := rfl
theorem rn_s {tx : Int → Int} {s0 : AS} {k : Int} (h : 0 ≤ k) : rn tx s0 (k + 1) = (rn tx s0 k).bind (rdA (tx k)) := by
  unfold rn
  rw [show (k + 1).toNat = k.toNat + 1 by omega]
  show (runN tx s0 k.toNat).bind (rdA (tx (k.toNat : Int))) = _
  rw [Int.toNat_of_nonneg h]
theorem rn_n {tx : Int → Int} {s0 : AS} {k j : Int} (h : 0 ≤ k) (hk : rn tx s0 k = none) (hj : k ≤ j) : rn tx s0 j = none := by
  obtain ⟨d, hd⟩ : ∃ d : Nat, j = k + d := ⟨(j - k).toNat, by omega⟩
  subst hd
  clear hj
  induction d with
  | zero => rw [show k + ((0 : Nat) : Int) = k by omega]; exact hk
  | succ d ih =>
    rw [show k + ((d + 1 : Nat) : Int) = k + d + 1 by omega, rn_s (by omega), ih]
    rfl
def IsEr (tx : Int → Int) (s0 : AS) (L e : Int) (st : AS) : Prop := (0 ≤ e ∧ e ≤ L) ∧ rn tx s0 e = some st ∧ (e = L ∨ rdA (tx e) st = none)
theorem IsEr.lt {tx : Int → Int} {s0 : AS} {L e e' : Int} {st st' : AS} (h : IsEr tx s0 L e st) (h2 : IsEr tx s0 L e' st') (hl : e < e') : False := by
  obtain ⟨⟨a0, a1⟩, a2, a3⟩ := h
  obtain ⟨⟨b0, b1⟩, b2, b3⟩ := h2
  have a4 : rdA (tx e) st = none := a3.resolve_left (by omega)
  have : rn tx s0 (e + 1) = none := by rw [rn_s a0, a2]; exact a4
  rw [rn_n (by omega) this (by omega)] at b2
  cases b2
theorem IsEr.uniq {tx : Int → Int} {s0 : AS} {L e e' : Int} {st st' : AS} (h : IsEr tx s0 L e st) (h2 : IsEr tx s0 L e' st') : e = e' ∧ st = st' := by
  have : e = e' := by
    rcases Int.lt_trichotomy e e' with q | q | q
    · exact (h.lt h2 q).elim
    · exact q
    · exact (h2.lt h q).elim
  subst this
  exact ⟨rfl, sm (h.2.1.symm.trans h2.2.1)⟩
theorem rn_ok {tx : Int → Int} {s0 : AS} (B : OkA 0 s0) : ∀ (k : Nat) (st : AS), runN tx s0 k = some st → OkA k st
  | 0, st, h => by cases h; exact B
  | k + 1, st, h => by
    rw [runN] at h
    obtain ⟨q, h1, h2⟩ := bnd h
    have := rdA_ok (rn_ok B k q h1) h2
    exact this
theorem rn_Ok {tx : Int → Int} {s0 st : AS} (B : OkA 0 s0) {k : Int} (h0 : 0 ≤ k) (h : rn tx s0 k = some st) : OkA k st := by
  have := rn_ok B k.toNat st h
  rw [Int.toNat_of_nonneg h0] at this
  exact this
section M1
variable {cd m : Nat → Int32} {pt dg nm x y c t : Int} {P : Int → Int} {L : Int32}
theorem c_addP {K : Int32} {a b w : Int} (c0 : 0 ≤ c) (c1 : c < 24) : fX3_addPoint (iZ a) (iZ b) (iZ w) (m, iZ c, K) = some (mup m (3 * c) a b w, iZ (c + 1), allK (c + 1)) := by
  have hp := c_putP (m := m) (s := iZ c) (K := K) (k := c) (x := a) (y := b) (w := w) c0 c1
  have hk := c_keepAll (m := mup m (3 * c) a b w) (n := c + 1) (K := K)
  unfold fX3_addPoint
  simp (disch := omega) only [S_size, S_s_size, hp, hk, gd_true, gd_dec, lt_def, bind_s, isb_0, isb_1, iZ_add, iZ_sub, iZ_mul, iZ_neg, lZ_add, lZ_sub, lZ_mul, iZ_lt, iZ_le, iZ_eq, lZ_lt, lZ_le, lZ_eq, iZ_64, iZ_N, inb_Z, if_pos, if_neg, ↓reduceIte, Bool.true_eq_false, Bool.false_eq_true, li0, li1, li2, li3, li4, li5, li6, li9, li10, li16, li20, li23, li24, li25, li31, li33, li44, li48, li49, li50, li51, li57, li59, li60, li63, li69, li70, li71, li72, li74, li99, li100, li119, li126, li250, li296, li297, li298, li299, li300, li301, li302, li303, li606, li1515, li1818, li16384, li1048576, li2147483647, li10000, lj0, lj1, lj10000]
theorem c_endP (hm : Row m c P) {d : Int32} {K : Int32} (hp : 0 ≤ pt ∧ pt ≤ 2) (c0 : 0 ≤ c) (c1 : c < 24) : ∃ m' : Nat → Int32, fX4_endPoint (cd, L, iZ pt, d, iZ nm, iZ x, iZ y) (m, iZ c, K) = some (m', iZ (c + 1), allK (c + 1)) ∧ Row m' (c + 1) (endP pt nm x y c P) := by
  unfold endP
  by_cases e : pt = 2
  · have ha := c_addP (m := m) (c := c) (K := K) (a := x) (b := y) (w := nm) c0 c1
    refine ⟨mup m (3 * c) x y nm, ?_, by rw [if_pos e]; exact hm.add c0 x y nm⟩
    unfold fX4_endPoint
    simp (disch := omega) only [T_part, T_x, T_y, T_number, ha, gd_true, gd_dec, lt_def, bind_s, isb_0, isb_1, iZ_add, iZ_sub, iZ_mul, iZ_neg, lZ_add, lZ_sub, lZ_mul, iZ_lt, iZ_le, iZ_eq, lZ_lt, lZ_le, lZ_eq, iZ_64, iZ_N, inb_Z, if_pos, if_neg, ↓reduceIte, Bool.true_eq_false, Bool.false_eq_true, li0, li1, li2, li3, li4, li5, li6, li9, li10, li16, li20, li23, li24, li25, li31, li33, li44, li48, li49, li50, li51, li57, li59, li60, li63, li69, li70, li71, li72, li74, li99, li100, li119, li126, li250, li296, li297, li298, li299, li300, li301, li302, li303, li606, li1515, li1818, li16384, li1048576, li2147483647, li10000, lj0, lj1, lj10000]
  · have ha := c_addP (m := m) (c := c) (K := K) (a := x) (b := nm) (w := 5) c0 c1
    refine ⟨mup m (3 * c) x nm 5, ?_, by rw [if_neg e]; exact hm.add c0 x nm 5⟩
    unfold fX4_endPoint
    simp (disch := omega) only [T_part, T_x, T_y, T_number, ha, gd_true, gd_dec, lt_def, bind_s, isb_0, isb_1, iZ_add, iZ_sub, iZ_mul, iZ_neg, lZ_add, lZ_sub, lZ_mul, iZ_lt, iZ_le, iZ_eq, lZ_lt, lZ_le, lZ_eq, iZ_64, iZ_N, inb_Z, if_pos, if_neg, ↓reduceIte, Bool.true_eq_false, Bool.false_eq_true, li0, li1, li2, li3, li4, li5, li6, li9, li10, li16, li20, li23, li24, li25, li31, li33, li44, li48, li49, li50, li51, li57, li59, li60, li63, li69, li70, li71, li72, li74, li99, li100, li119, li126, li250, li296, li297, li298, li299, li300, li301, li302, li303, li606, li1515, li1818, li16384, li1048576, li2147483647, li10000, lj0, lj1, lj10000]
theorem c_begin {q : Int} {p0 d0 n0 x0 y0 : Int32} {w : SS} : fX4_beginPart (iZ q) (cd, L, p0, d0, n0, x0, y0) w = some (cd, L, iZ q, iZ 0, iZ 0, x0, y0) := rfl
theorem c_digit {w : SS} (B : OkA 70 (pt, dg, nm, x, y, c, P)) (h48 : 48 ≤ t) (h57 : t ≤ 57) : (∃ st' : AS, rdD t (pt, dg, nm, x, y, c, P) = some (pt, dg + 1, 10 * nm + (t - 48), x, y, c, P) ∧ fX4_readsDigit (iZ (t - 48)) (cd, L, iZ pt, iZ dg, iZ nm, iZ x, iZ y) w = some (iZ 1, (cd, L, iZ pt, iZ (dg + 1), iZ (10 * nm + (t - 48)), iZ x, iZ y))) ∨ (rdD t (pt, dg, nm, x, y, c, P) = none ∧ fX4_readsDigit (iZ (t - 48)) (cd, L, iZ pt, iZ dg, iZ nm, iZ x, iZ y) w = some (iZ 0, (cd, L, iZ pt, iZ dg, iZ nm, iZ x, iZ y))) := by
  obtain ⟨b1, b2, b3, b4, b5, b6, b7, b8, b9⟩ := B
  unfold rdD fX4_readsDigit
  by_cases hd : dg = 0
  · by_cases hp : pt = 2
    · by_cases h1 : 10 * nm + (t - 48) < 1
      · right
        constructor
        · simp (disch := omega) only [if_pos, if_neg]
        · simp (disch := omega) only [T_part, T_digits, T_number, gd_true, gd_dec, lt_def, bind_s, isb_0, isb_1, iZ_add, iZ_sub, iZ_mul, iZ_neg, lZ_add, lZ_sub, lZ_mul, iZ_lt, iZ_le, iZ_eq, lZ_lt, lZ_le, lZ_eq, iZ_64, iZ_N, inb_Z, if_pos, if_neg, ↓reduceIte, Bool.true_eq_false, Bool.false_eq_true, li0, li1, li2, li3, li4, li5, li6, li9, li10, li16, li20, li23, li24, li25, li31, li33, li44, li48, li49, li50, li51, li57, li59, li60, li63, li69, li70, li71, li72, li74, li99, li100, li119, li126, li250, li296, li297, li298, li299, li300, li301, li302, li303, li606, li1515, li1818, li16384, li1048576, li2147483647, li10000, lj0, lj1, lj10000]
      · by_cases h2 : 10 * nm + (t - 48) ≤ 20
        · left
          refine ⟨(pt, dg, nm, x, y, c, P), ?_, ?_⟩
          · simp (disch := omega) only [if_pos, if_neg]
          · simp (disch := omega) only [T_part, T_digits, T_number, T_s_digits, T_s_number, gd_true, gd_dec, lt_def, bind_s, isb_0, isb_1, iZ_add, iZ_sub, iZ_mul, iZ_neg, lZ_add, lZ_sub, lZ_mul, iZ_lt, iZ_le, iZ_eq, lZ_lt, lZ_le, lZ_eq, iZ_64, iZ_N, inb_Z, if_pos, if_neg, ↓reduceIte, Bool.true_eq_false, Bool.false_eq_true, li0, li1, li2, li3, li4, li5, li6, li9, li10, li16, li20, li23, li24, li25, li31, li33, li44, li48, li49, li50, li51, li57, li59, li60, li63, li69, li70, li71, li72, li74, li99, li100, li119, li126, li250, li296, li297, li298, li299, li300, li301, li302, li303, li606, li1515, li1818, li16384, li1048576, li2147483647, li10000, lj0, lj1, lj10000]
        · right
          constructor
          · simp (disch := omega) only [if_pos, if_neg]
          · simp (disch := omega) only [T_part, T_digits, T_number, gd_true, gd_dec, lt_def, bind_s, isb_0, isb_1, iZ_add, iZ_sub, iZ_mul, iZ_neg, lZ_add, lZ_sub, lZ_mul, iZ_lt, iZ_le, iZ_eq, lZ_lt, lZ_le, lZ_eq, iZ_64, iZ_N, inb_Z, if_pos, if_neg, ↓reduceIte, Bool.true_eq_false, Bool.false_eq_true, li0, li1, li2, li3, li4, li5, li6, li9, li10, li16, li20, li23, li24, li25, li31, li33, li44, li48, li49, li50, li51, li57, li59, li60, li63, li69, li70, li71, li72, li74, li99, li100, li119, li126, li250, li296, li297, li298, li299, li300, li301, li302, li303, li606, li1515, li1818, li16384, li1048576, li2147483647, li10000, lj0, lj1, lj10000]
    · by_cases h2 : 10 * nm + (t - 48) ≤ 99
      · left
        refine ⟨(pt, dg, nm, x, y, c, P), ?_, ?_⟩
        · simp (disch := omega) only [if_pos, if_neg]
        · simp (disch := omega) only [T_part, T_digits, T_number, T_s_digits, T_s_number, gd_true, gd_dec, lt_def, bind_s, isb_0, isb_1, iZ_add, iZ_sub, iZ_mul, iZ_neg, lZ_add, lZ_sub, lZ_mul, iZ_lt, iZ_le, iZ_eq, lZ_lt, lZ_le, lZ_eq, iZ_64, iZ_N, inb_Z, if_pos, if_neg, ↓reduceIte, Bool.true_eq_false, Bool.false_eq_true, li0, li1, li2, li3, li4, li5, li6, li9, li10, li16, li20, li23, li24, li25, li31, li33, li44, li48, li49, li50, li51, li57, li59, li60, li63, li69, li70, li71, li72, li74, li99, li100, li119, li126, li250, li296, li297, li298, li299, li300, li301, li302, li303, li606, li1515, li1818, li16384, li1048576, li2147483647, li10000, lj0, lj1, lj10000]
      · right
        constructor
        · simp (disch := omega) only [if_pos, if_neg]
        · simp (disch := omega) only [T_part, T_digits, T_number, gd_true, gd_dec, lt_def, bind_s, isb_0, isb_1, iZ_add, iZ_sub, iZ_mul, iZ_neg, lZ_add, lZ_sub, lZ_mul, iZ_lt, iZ_le, iZ_eq, lZ_lt, lZ_le, lZ_eq, iZ_64, iZ_N, inb_Z, if_pos, if_neg, ↓reduceIte, Bool.true_eq_false, Bool.false_eq_true, li0, li1, li2, li3, li4, li5, li6, li9, li10, li16, li20, li23, li24, li25, li31, li33, li44, li48, li49, li50, li51, li57, li59, li60, li63, li69, li70, li71, li72, li74, li99, li100, li119, li126, li250, li296, li297, li298, li299, li300, li301, li302, li303, li606, li1515, li1818, li16384, li1048576, li2147483647, li10000, lj0, lj1, lj10000]
  · by_cases hn : nm = 0
    · right
      by_cases hp : pt = 2
      · constructor
        · simp (disch := omega) only [if_pos, if_neg]
        · simp (disch := omega) only [T_part, T_digits, T_number, gd_true, gd_dec, lt_def, bind_s, isb_0, isb_1, iZ_add, iZ_sub, iZ_mul, iZ_neg, lZ_add, lZ_sub, lZ_mul, iZ_lt, iZ_le, iZ_eq, lZ_lt, lZ_le, lZ_eq, iZ_64, iZ_N, inb_Z, if_pos, if_neg, ↓reduceIte, Bool.true_eq_false, Bool.false_eq_true, li0, li1, li2, li3, li4, li5, li6, li9, li10, li16, li20, li23, li24, li25, li31, li33, li44, li48, li49, li50, li51, li57, li59, li60, li63, li69, li70, li71, li72, li74, li99, li100, li119, li126, li250, li296, li297, li298, li299, li300, li301, li302, li303, li606, li1515, li1818, li16384, li1048576, li2147483647, li10000, lj0, lj1, lj10000]
      · constructor
        · simp (disch := omega) only [if_pos, if_neg]
        · simp (disch := omega) only [T_part, T_digits, T_number, gd_true, gd_dec, lt_def, bind_s, isb_0, isb_1, iZ_add, iZ_sub, iZ_mul, iZ_neg, lZ_add, lZ_sub, lZ_mul, iZ_lt, iZ_le, iZ_eq, lZ_lt, lZ_le, lZ_eq, iZ_64, iZ_N, inb_Z, if_pos, if_neg, ↓reduceIte, Bool.true_eq_false, Bool.false_eq_true, li0, li1, li2, li3, li4, li5, li6, li9, li10, li16, li20, li23, li24, li25, li31, li33, li44, li48, li49, li50, li51, li57, li59, li60, li63, li69, li70, li71, li72, li74, li99, li100, li119, li126, li250, li296, li297, li298, li299, li300, li301, li302, li303, li606, li1515, li1818, li16384, li1048576, li2147483647, li10000, lj0, lj1, lj10000]
    · by_cases hp : pt = 2
      · by_cases h2 : 10 * nm + (t - 48) ≤ 20
        · left
          refine ⟨(pt, dg, nm, x, y, c, P), ?_, ?_⟩
          · simp (disch := omega) only [if_pos, if_neg]
          · simp (disch := omega) only [T_part, T_digits, T_number, T_s_digits, T_s_number, gd_true, gd_dec, lt_def, bind_s, isb_0, isb_1, iZ_add, iZ_sub, iZ_mul, iZ_neg, lZ_add, lZ_sub, lZ_mul, iZ_lt, iZ_le, iZ_eq, lZ_lt, lZ_le, lZ_eq, iZ_64, iZ_N, inb_Z, if_pos, if_neg, ↓reduceIte, Bool.true_eq_false, Bool.false_eq_true, li0, li1, li2, li3, li4, li5, li6, li9, li10, li16, li20, li23, li24, li25, li31, li33, li44, li48, li49, li50, li51, li57, li59, li60, li63, li69, li70, li71, li72, li74, li99, li100, li119, li126, li250, li296, li297, li298, li299, li300, li301, li302, li303, li606, li1515, li1818, li16384, li1048576, li2147483647, li10000, lj0, lj1, lj10000]
        · right
          constructor
          · simp (disch := omega) only [if_pos, if_neg]
          · simp (disch := omega) only [T_part, T_digits, T_number, gd_true, gd_dec, lt_def, bind_s, isb_0, isb_1, iZ_add, iZ_sub, iZ_mul, iZ_neg, lZ_add, lZ_sub, lZ_mul, iZ_lt, iZ_le, iZ_eq, lZ_lt, lZ_le, lZ_eq, iZ_64, iZ_N, inb_Z, if_pos, if_neg, ↓reduceIte, Bool.true_eq_false, Bool.false_eq_true, li0, li1, li2, li3, li4, li5, li6, li9, li10, li16, li20, li23, li24, li25, li31, li33, li44, li48, li49, li50, li51, li57, li59, li60, li63, li69, li70, li71, li72, li74, li99, li100, li119, li126, li250, li296, li297, li298, li299, li300, li301, li302, li303, li606, li1515, li1818, li16384, li1048576, li2147483647, li10000, lj0, lj1, lj10000]
      · by_cases h2 : 10 * nm + (t - 48) ≤ 99
        · left
          refine ⟨(pt, dg, nm, x, y, c, P), ?_, ?_⟩
          · simp (disch := omega) only [if_pos, if_neg]
          · simp (disch := omega) only [T_part, T_digits, T_number, T_s_digits, T_s_number, gd_true, gd_dec, lt_def, bind_s, isb_0, isb_1, iZ_add, iZ_sub, iZ_mul, iZ_neg, lZ_add, lZ_sub, lZ_mul, iZ_lt, iZ_le, iZ_eq, lZ_lt, lZ_le, lZ_eq, iZ_64, iZ_N, inb_Z, if_pos, if_neg, ↓reduceIte, Bool.true_eq_false, Bool.false_eq_true, li0, li1, li2, li3, li4, li5, li6, li9, li10, li16, li20, li23, li24, li25, li31, li33, li44, li48, li49, li50, li51, li57, li59, li60, li63, li69, li70, li71, li72, li74, li99, li100, li119, li126, li250, li296, li297, li298, li299, li300, li301, li302, li303, li606, li1515, li1818, li16384, li1048576, li2147483647, li10000, lj0, lj1, lj10000]
        · right
          constructor
          · simp (disch := omega) only [if_pos, if_neg]
          · simp (disch := omega) only [T_part, T_digits, T_number, gd_true, gd_dec, lt_def, bind_s, isb_0, isb_1, iZ_add, iZ_sub, iZ_mul, iZ_neg, lZ_add, lZ_sub, lZ_mul, iZ_lt, iZ_le, iZ_eq, lZ_lt, lZ_le, lZ_eq, iZ_64, iZ_N, inb_Z, if_pos, if_neg, ↓reduceIte, Bool.true_eq_false, Bool.false_eq_true, li0, li1, li2, li3, li4, li5, li6, li9, li10, li16, li20, li23, li24, li25, li31, li33, li44, li48, li49, li50, li51, li57, li59, li60, li63, li69, li70, li71, li72, li74, li99, li100, li119, li126, li250, li296, li297, li298, li299, li300, li301, li302, li303, li606, li1515, li1818, li16384, li1048576, li2147483647, li10000, lj0, lj1, lj10000]
def tS (cd : Nat → Int32) (L : Int32) (st : AS) : TS := (cd, L, iZ st.1, iZ st.2.1, iZ st.2.2.1, iZ st.2.2.2.1, iZ st.2.2.2.2.1)
def bS (m : Nat → Int32) (st : AS) : SS := (m, iZ st.2.2.2.2.2.1, allK st.2.2.2.2.2.1)
theorem c_reads (hm : Row m c P) (B : OkA 70 (pt, dg, nm, x, y, c, P)) (ht : 33 ≤ t ∧ t ≤ 126) : (∃ (st' : AS) (m' : Nat → Int32), rdA t (pt, dg, nm, x, y, c, P) = some st' ∧ fX4_reads (iZ t) (cd, L, iZ pt, iZ dg, iZ nm, iZ x, iZ y) (m, iZ c, allK c) = some (iZ 1, tS cd L st', bS m' st') ∧ Row m' st'.2.2.2.2.2.1 st'.2.2.2.2.2.2) ∨ (rdA t (pt, dg, nm, x, y, c, P) = none ∧ fX4_reads (iZ t) (cd, L, iZ pt, iZ dg, iZ nm, iZ x, iZ y) (m, iZ c, allK c) = some (iZ 0, (cd, L, iZ pt, iZ dg, iZ nm, iZ x, iZ y), (m, iZ c, allK c))) := by
  obtain ⟨b1, b2, b3, b4, b5, b6, b7, b8, b9⟩ := id B
  by_cases hdig : 48 ≤ t ∧ t ≤ 57
  · have e : rdA t (pt, dg, nm, x, y, c, P) = rdD t (pt, dg, nm, x, y, c, P) := by
      unfold rdA
      rw [if_neg (by omega), if_neg (by omega)]
    rw [e]
    unfold fX4_reads
    rcases c_digit (cd := cd) (L := L) (w := (m, iZ c, allK c)) B hdig.1 hdig.2 with ⟨-, h1, h2⟩ | ⟨h1, h2⟩
    · left
      refine ⟨_, m, h1, ?_, hm⟩
      simp (disch := omega) only [h2, gd_true, gd_dec, lt_def, bind_s, isb_0, isb_1, iZ_add, iZ_sub, iZ_mul, iZ_neg, lZ_add, lZ_sub, lZ_mul, iZ_lt, iZ_le, iZ_eq, lZ_lt, lZ_le, lZ_eq, iZ_64, iZ_N, inb_Z, if_pos, if_neg, ↓reduceIte, Bool.true_eq_false, Bool.false_eq_true, li0, li1, li2, li3, li4, li5, li6, li9, li10, li16, li20, li23, li24, li25, li31, li33, li44, li48, li49, li50, li51, li57, li59, li60, li63, li69, li70, li71, li72, li74, li99, li100, li119, li126, li250, li296, li297, li298, li299, li300, li301, li302, li303, li606, li1515, li1818, li16384, li1048576, li2147483647, li10000, lj0, lj1, lj10000] <;> rfl
    · right
      refine ⟨h1, ?_⟩
      simp (disch := omega) only [h2, gd_true, gd_dec, lt_def, bind_s, isb_0, isb_1, iZ_add, iZ_sub, iZ_mul, iZ_neg, lZ_add, lZ_sub, lZ_mul, iZ_lt, iZ_le, iZ_eq, lZ_lt, lZ_le, lZ_eq, iZ_64, iZ_N, inb_Z, if_pos, if_neg, ↓reduceIte, Bool.true_eq_false, Bool.false_eq_true, li0, li1, li2, li3, li4, li5, li6, li9, li10, li16, li20, li23, li24, li25, li31, li33, li44, li48, li49, li50, li51, li57, li59, li60, li63, li69, li70, li71, li72, li74, li99, li100, li119, li126, li250, li296, li297, li298, li299, li300, li301, li302, li303, li606, li1515, li1818, li16384, li1048576, li2147483647, li10000, lj0, lj1, lj10000]
  · have e : rdA t (pt, dg, nm, x, y, c, P) = rdS t (pt, dg, nm, x, y, c, P) := by
      unfold rdA
      by_cases h1 : t < 48
      · rw [if_pos h1]
      · rw [if_neg h1, if_pos (by omega)]
    rw [e]
    unfold rdS fX4_reads
    have hsz : fX3_size (m, iZ c, allK c) = some (iZ c) := rfl
    by_cases hd : dg = 0
    · right
      constructor
      · simp (disch := omega) only [if_pos, if_neg]
      · by_cases h1 : t < 48
        · simp (disch := omega) only [T_digits, gd_true, gd_dec, lt_def, bind_s, isb_0, isb_1, iZ_add, iZ_sub, iZ_mul, iZ_neg, lZ_add, lZ_sub, lZ_mul, iZ_lt, iZ_le, iZ_eq, lZ_lt, lZ_le, lZ_eq, iZ_64, iZ_N, inb_Z, if_pos, if_neg, ↓reduceIte, Bool.true_eq_false, Bool.false_eq_true, li0, li1, li2, li3, li4, li5, li6, li9, li10, li16, li20, li23, li24, li25, li31, li33, li44, li48, li49, li50, li51, li57, li59, li60, li63, li69, li70, li71, li72, li74, li99, li100, li119, li126, li250, li296, li297, li298, li299, li300, li301, li302, li303, li606, li1515, li1818, li16384, li1048576, li2147483647, li10000, lj0, lj1, lj10000]
        · simp (disch := omega) only [T_digits, gd_true, gd_dec, lt_def, bind_s, isb_0, isb_1, iZ_add, iZ_sub, iZ_mul, iZ_neg, lZ_add, lZ_sub, lZ_mul, iZ_lt, iZ_le, iZ_eq, lZ_lt, lZ_le, lZ_eq, iZ_64, iZ_N, inb_Z, if_pos, if_neg, ↓reduceIte, Bool.true_eq_false, Bool.false_eq_true, li0, li1, li2, li3, li4, li5, li6, li9, li10, li16, li20, li23, li24, li25, li31, li33, li44, li48, li49, li50, li51, li57, li59, li60, li63, li69, li70, li71, li72, li74, li99, li100, li119, li126, li250, li296, li297, li298, li299, li300, li301, li302, li303, li606, li1515, li1818, li16384, li1048576, li2147483647, li10000, lj0, lj1, lj10000]
    · by_cases h44 : t = 44
      · by_cases hp : pt = 0
        · left
          refine ⟨(1, 0, 0, nm, y, c, P), m, ?_, ?_, hm⟩
          · simp (disch := omega) only [if_pos, if_neg]
          · simp (disch := omega) only [T_digits, T_part, T_number, T_s_x, c_begin, gd_true, gd_dec, lt_def, bind_s, isb_0, isb_1, iZ_add, iZ_sub, iZ_mul, iZ_neg, lZ_add, lZ_sub, lZ_mul, iZ_lt, iZ_le, iZ_eq, lZ_lt, lZ_le, lZ_eq, iZ_64, iZ_N, inb_Z, if_pos, if_neg, ↓reduceIte, Bool.true_eq_false, Bool.false_eq_true, li0, li1, li2, li3, li4, li5, li6, li9, li10, li16, li20, li23, li24, li25, li31, li33, li44, li48, li49, li50, li51, li57, li59, li60, li63, li69, li70, li71, li72, li74, li99, li100, li119, li126, li250, li296, li297, li298, li299, li300, li301, li302, li303, li606, li1515, li1818, li16384, li1048576, li2147483647, li10000, lj0, lj1, lj10000] <;> rfl
        · right
          constructor
          · simp (disch := omega) only [if_pos, if_neg]
          · simp (disch := omega) only [T_digits, T_part, T_number, T_s_x, c_begin, gd_true, gd_dec, lt_def, bind_s, isb_0, isb_1, iZ_add, iZ_sub, iZ_mul, iZ_neg, lZ_add, lZ_sub, lZ_mul, iZ_lt, iZ_le, iZ_eq, lZ_lt, lZ_le, lZ_eq, iZ_64, iZ_N, inb_Z, if_pos, if_neg, ↓reduceIte, Bool.true_eq_false, Bool.false_eq_true, li0, li1, li2, li3, li4, li5, li6, li9, li10, li16, li20, li23, li24, li25, li31, li33, li44, li48, li49, li50, li51, li57, li59, li60, li63, li69, li70, li71, li72, li74, li99, li100, li119, li126, li250, li296, li297, li298, li299, li300, li301, li302, li303, li606, li1515, li1818, li16384, li1048576, li2147483647, li10000, lj0, lj1, lj10000]
      · by_cases h119 : t = 119
        · by_cases hp : pt = 1
          · left
            refine ⟨(2, 0, 0, x, nm, c, P), m, ?_, ?_, hm⟩
            · simp (disch := omega) only [if_pos, if_neg]
            · simp (disch := omega) only [T_digits, T_part, T_number, T_s_y, c_begin, gd_true, gd_dec, lt_def, bind_s, isb_0, isb_1, iZ_add, iZ_sub, iZ_mul, iZ_neg, lZ_add, lZ_sub, lZ_mul, iZ_lt, iZ_le, iZ_eq, lZ_lt, lZ_le, lZ_eq, iZ_64, iZ_N, inb_Z, if_pos, if_neg, ↓reduceIte, Bool.true_eq_false, Bool.false_eq_true, li0, li1, li2, li3, li4, li5, li6, li9, li10, li16, li20, li23, li24, li25, li31, li33, li44, li48, li49, li50, li51, li57, li59, li60, li63, li69, li70, li71, li72, li74, li99, li100, li119, li126, li250, li296, li297, li298, li299, li300, li301, li302, li303, li606, li1515, li1818, li16384, li1048576, li2147483647, li10000, lj0, lj1, lj10000] <;> rfl
          · right
            constructor
            · simp (disch := omega) only [if_pos, if_neg]
            · simp (disch := omega) only [T_digits, T_part, T_number, c_begin, gd_true, gd_dec, lt_def, bind_s, isb_0, isb_1, iZ_add, iZ_sub, iZ_mul, iZ_neg, lZ_add, lZ_sub, lZ_mul, iZ_lt, iZ_le, iZ_eq, lZ_lt, lZ_le, lZ_eq, iZ_64, iZ_N, inb_Z, if_pos, if_neg, ↓reduceIte, Bool.true_eq_false, Bool.false_eq_true, li0, li1, li2, li3, li4, li5, li6, li9, li10, li16, li20, li23, li24, li25, li31, li33, li44, li48, li49, li50, li51, li57, li59, li60, li63, li69, li70, li71, li72, li74, li99, li100, li119, li126, li250, li296, li297, li298, li299, li300, li301, li302, li303, li606, li1515, li1818, li16384, li1048576, li2147483647, li10000, lj0, lj1, lj10000]
        · by_cases h59 : t = 59
          · by_cases hp : pt = 0
            · right
              constructor
              · simp (disch := omega) only [if_pos, if_neg]
              · simp (disch := omega) only [T_digits, T_part, T_number, c_begin, gd_true, gd_dec, lt_def, bind_s, isb_0, isb_1, iZ_add, iZ_sub, iZ_mul, iZ_neg, lZ_add, lZ_sub, lZ_mul, iZ_lt, iZ_le, iZ_eq, lZ_lt, lZ_le, lZ_eq, iZ_64, iZ_N, inb_Z, if_pos, if_neg, ↓reduceIte, Bool.true_eq_false, Bool.false_eq_true, li0, li1, li2, li3, li4, li5, li6, li9, li10, li16, li20, li23, li24, li25, li31, li33, li44, li48, li49, li50, li51, li57, li59, li60, li63, li69, li70, li71, li72, li74, li99, li100, li119, li126, li250, li296, li297, li298, li299, li300, li301, li302, li303, li606, li1515, li1818, li16384, li1048576, li2147483647, li10000, lj0, lj1, lj10000]
            · by_cases hc : c + 1 < 24
              · left
                obtain ⟨m', h1, h2⟩ := c_endP (cd := cd) (L := L) (nm := nm) (x := x) (y := y) (d := iZ dg) (K := allK c) hm b1 b8.1 (by omega)
                refine ⟨(0, 0, 0, x, y, c + 1, endP pt nm x y c P), m', ?_, ?_, h2⟩
                · simp (disch := omega) only [if_pos, if_neg]
                · simp (disch := omega) only [T_digits, T_part, T_number, hsz, h1, c_begin, gd_true, gd_dec, lt_def, bind_s, isb_0, isb_1, iZ_add, iZ_sub, iZ_mul, iZ_neg, lZ_add, lZ_sub, lZ_mul, iZ_lt, iZ_le, iZ_eq, lZ_lt, lZ_le, lZ_eq, iZ_64, iZ_N, inb_Z, if_pos, if_neg, ↓reduceIte, Bool.true_eq_false, Bool.false_eq_true, li0, li1, li2, li3, li4, li5, li6, li9, li10, li16, li20, li23, li24, li25, li31, li33, li44, li48, li49, li50, li51, li57, li59, li60, li63, li69, li70, li71, li72, li74, li99, li100, li119, li126, li250, li296, li297, li298, li299, li300, li301, li302, li303, li606, li1515, li1818, li16384, li1048576, li2147483647, li10000, lj0, lj1, lj10000] <;> rfl
              · right
                constructor
                · simp (disch := omega) only [if_pos, if_neg]
                · simp (disch := omega) only [T_digits, T_part, T_number, hsz, gd_true, gd_dec, lt_def, bind_s, isb_0, isb_1, iZ_add, iZ_sub, iZ_mul, iZ_neg, lZ_add, lZ_sub, lZ_mul, iZ_lt, iZ_le, iZ_eq, lZ_lt, lZ_le, lZ_eq, iZ_64, iZ_N, inb_Z, if_pos, if_neg, ↓reduceIte, Bool.true_eq_false, Bool.false_eq_true, li0, li1, li2, li3, li4, li5, li6, li9, li10, li16, li20, li23, li24, li25, li31, li33, li44, li48, li49, li50, li51, li57, li59, li60, li63, li69, li70, li71, li72, li74, li99, li100, li119, li126, li250, li296, li297, li298, li299, li300, li301, li302, li303, li606, li1515, li1818, li16384, li1048576, li2147483647, li10000, lj0, lj1, lj10000]
          · right
            constructor
            · simp (disch := omega) only [if_pos, if_neg]
            · by_cases h1 : t < 48
              · simp (disch := omega) only [T_digits, gd_true, gd_dec, lt_def, bind_s, isb_0, isb_1, iZ_add, iZ_sub, iZ_mul, iZ_neg, lZ_add, lZ_sub, lZ_mul, iZ_lt, iZ_le, iZ_eq, lZ_lt, lZ_le, lZ_eq, iZ_64, iZ_N, inb_Z, if_pos, if_neg, ↓reduceIte, Bool.true_eq_false, Bool.false_eq_true, li0, li1, li2, li3, li4, li5, li6, li9, li10, li16, li20, li23, li24, li25, li31, li33, li44, li48, li49, li50, li51, li57, li59, li60, li63, li69, li70, li71, li72, li74, li99, li100, li119, li126, li250, li296, li297, li298, li299, li300, li301, li302, li303, li606, li1515, li1818, li16384, li1048576, li2147483647, li10000, lj0, lj1, lj10000]
              · simp (disch := omega) only [T_digits, gd_true, gd_dec, lt_def, bind_s, isb_0, isb_1, iZ_add, iZ_sub, iZ_mul, iZ_neg, lZ_add, lZ_sub, lZ_mul, iZ_lt, iZ_le, iZ_eq, lZ_lt, lZ_le, lZ_eq, iZ_64, iZ_N, inb_Z, if_pos, if_neg, ↓reduceIte, Bool.true_eq_false, Bool.false_eq_true, li0, li1, li2, li3, li4, li5, li6, li9, li10, li16, li20, li23, li24, li25, li31, li33, li44, li48, li49, li50, li51, li57, li59, li60, li63, li69, li70, li71, li72, li74, li99, li100, li119, li126, li250, li296, li297, li298, li299, li300, li301, li302, li303, li606, li1515, li1818, li16384, li1048576, li2147483647, li10000, lj0, lj1, lj10000]
end M1
/-- the class's reader stops at the first error -/
theorem c_read {cd : Nat → Int32} {L : Int} {tx : Int → Int} {s0 : AS} (hL : 0 ≤ L ∧ L ≤ 70) (hcd : ∀ k : Int, 0 ≤ k → k < L → cd k.toNat = iZ (tx k)) (ht : ∀ k : Int, 0 ≤ k → k < L → 33 ≤ tx k ∧ tx k ≤ 126) (B : OkA 0 s0) {m : Nat → Int32} (hm : Row m s0.2.2.2.2.2.1 s0.2.2.2.2.2.2) : ∃ (e : Int) (st : AS) (m' : Nat → Int32), IsEr tx s0 L e st ∧ lX4_readToError_14 (iZ 0) (tS cd (iZ L) s0) (bS m s0) = some (iZ e, tS cd (iZ L) st, bS m' st) ∧ Row m' st.2.2.2.2.2.1 st.2.2.2.2.2.2 := by
  obtain ⟨r, q1, e, st, m', h1, rfl, h2⟩ := lp_mu (f := bX4_readToError_14) (fun s => ∃ (k : Int) (st : AS) (m' : Nat → Int32), (0 ≤ k ∧ k ≤ L) ∧ rn tx s0 k = some st ∧ s = (iZ k, tS cd (iZ L) st, bS m' st) ∧ Row m' st.2.2.2.2.2.1 st.2.2.2.2.2.2) (fun s => (L - s.1.toInt).toNat) (fun r => ∃ (e : Int) (st : AS) (m' : Nat → Int32), IsEr tx s0 L e st ∧ r = (iZ e, tS cd (iZ L) st, bS m' st) ∧ Row m' st.2.2.2.2.2.1 st.2.2.2.2.2.2) (by
    rintro s ⟨k, st, m', ⟨k0, k1⟩, hr, rfl, hm'⟩
    have eT : T_length (tS cd (iZ L) st) = iZ L := rfl
    by_cases hk : k = L
    · right
      refine ⟨(iZ k, tS cd (iZ L) st, bS m' st), ?_, k, st, m', ⟨⟨k0, k1⟩, hr, Or.inl hk⟩, rfl, hm'⟩
      rw [hk]
      simp (disch := omega) only [bX4_readToError_14, eT, gd_true, gd_dec, lt_def, bind_s, isb_0, isb_1, iZ_add, iZ_sub, iZ_mul, iZ_neg, lZ_add, lZ_sub, lZ_mul, iZ_lt, iZ_le, iZ_eq, lZ_lt, lZ_le, lZ_eq, iZ_64, iZ_N, inb_Z, if_pos, if_neg, ↓reduceIte, Bool.true_eq_false, Bool.false_eq_true, li0, li1, li2, li3, li4, li5, li6, li9, li10, li16, li20, li23, li24, li25, li31, li33, li44, li48, li49, li50, li51, li57, li59, li60, li63, li69, li70, li71, li72, li74, li99, li100, li119, li126, li250, li296, li297, li298, li299, li300, li301, li302, li303, li606, li1515, li1818, li16384, li1048576, li2147483647, li10000, lj0, lj1, lj10000]
    · have hcell := c_cell (f := cd) (j := k) (na := 70) k0 (by omega) (by omega)
      rw [hcd k k0 (by omega)] at hcell
      have eC : T_codes (tS cd (iZ L) st) = cd := rfl
      have Bk := rn_Ok B k0 hr
      obtain ⟨pt, dg, nm, x, y, c, P⟩ := st
      have B7 : OkA 70 (pt, dg, nm, x, y, c, P) := by
        obtain ⟨b1, b2, b3⟩ := Bk
        exact ⟨b1, by omega, b3⟩
      rcases c_reads (cd := cd) (L := iZ L) hm' B7 (ht k k0 (by omega)) with ⟨st2, m2, g1, g2, g3⟩ | ⟨g1, g2⟩
      · left
        refine ⟨(iZ (k + 1), tS cd (iZ L) st2, bS m2 st2), ?_, ⟨k + 1, st2, m2, by omega, by rw [rn_s k0, hr]; exact g1, rfl, g3⟩, ?_⟩
        · have g2' : fX4_reads (iZ (tx k)) (tS cd (iZ L) (pt, dg, nm, x, y, c, P)) (bS m' (pt, dg, nm, x, y, c, P)) = _ := g2
          simp (disch := omega) only [bX4_readToError_14, eT, eC, hcell, g2', gd_true, gd_dec, lt_def, bind_s, isb_0, isb_1, iZ_add, iZ_sub, iZ_mul, iZ_neg, lZ_add, lZ_sub, lZ_mul, iZ_lt, iZ_le, iZ_eq, lZ_lt, lZ_le, lZ_eq, iZ_64, iZ_N, inb_Z, if_pos, if_neg, ↓reduceIte, Bool.true_eq_false, Bool.false_eq_true, li0, li1, li2, li3, li4, li5, li6, li9, li10, li16, li20, li23, li24, li25, li31, li33, li44, li48, li49, li50, li51, li57, li59, li60, li63, li69, li70, li71, li72, li74, li99, li100, li119, li126, li250, li296, li297, li298, li299, li300, li301, li302, li303, li606, li1515, li1818, li16384, li1048576, li2147483647, li10000, lj0, lj1, lj10000]
        · show (L - (iZ (k + 1)).toInt).toNat < (L - (iZ k).toInt).toNat
          rw [iZ_T (by omega) (by omega), iZ_T (by omega) (by omega)]
          omega
      · right
        refine ⟨(iZ k, tS cd (iZ L) (pt, dg, nm, x, y, c, P), bS m' (pt, dg, nm, x, y, c, P)), ?_, k, _, m', ⟨⟨k0, k1⟩, hr, Or.inr g1⟩, rfl, hm'⟩
        have g2' : fX4_reads (iZ (tx k)) (tS cd (iZ L) (pt, dg, nm, x, y, c, P)) (bS m' (pt, dg, nm, x, y, c, P)) = some (iZ 0, tS cd (iZ L) (pt, dg, nm, x, y, c, P), bS m' (pt, dg, nm, x, y, c, P)) := g2
        simp (disch := omega) only [bX4_readToError_14, eT, eC, hcell, g2', gd_true, gd_dec, lt_def, bind_s, isb_0, isb_1, iZ_add, iZ_sub, iZ_mul, iZ_neg, lZ_add, lZ_sub, lZ_mul, iZ_lt, iZ_le, iZ_eq, lZ_lt, lZ_le, lZ_eq, iZ_64, iZ_N, inb_Z, if_pos, if_neg, ↓reduceIte, Bool.true_eq_false, Bool.false_eq_true, li0, li1, li2, li3, li4, li5, li6, li9, li10, li16, li20, li23, li24, li25, li31, li33, li44, li48, li49, li50, li51, li57, li59, li60, li63, li69, li70, li71, li72, li74, li99, li100, li119, li126, li250, li296, li297, li298, li299, li300, li301, li302, li303, li606, li1515, li1818, li16384, li1048576, li2147483647, li10000, lj0, lj1, lj10000]) (iZ 0, tS cd (iZ L) s0, bS m s0) ⟨0, s0, m, by omega, rn_0 _ _, rfl, hm⟩
  exact ⟨e, st, m', h1, q1, h2⟩
end
