/-! numbers of bits -/
theorem iZ_nI (n : Nat) : iZ (n : Int) = nI n := Int32.ofInt_eq_ofNat
def A1 (v : Nat) : Nat := v - ((v / 2) &&& 85)
def A2 (v : Nat) : Nat := (A1 v &&& 51) + ((A1 v / 4) &&& 51)
def pb (v : Nat) : Nat := (v.testBit 0).toNat + (v.testBit 1).toNat + (v.testBit 2).toNat + (v.testBit 3).toNat + (v.testBit 4).toNat + (v.testBit 5).toNat + (v.testBit 6).toNat + (v.testBit 7).toNat
theorem A_tab {v : Nat} (h : v < 256) : ((v / 2) &&& 85) ≤ v ∧ A2 v ≤ 68 ∧ A2 v % 16 ≤ 4 ∧ ((A2 v + A2 v / 16) &&& 15) = pb v ∧ pb v ≤ 8 := co_dec (N := 256) (P := fun v => ((v / 2) &&& 85) ≤ v ∧ A2 v ≤ 68 ∧ A2 v % 16 ≤ 4 ∧ ((A2 v + A2 v / 16) &&& 15) = pb v ∧ pb v ≤ 8) (by decide +kernel) h
theorem B_1 {v : Nat} (h : v < 256) : ((v / 2 + 128 * 1) &&& 85) = ((v / 2) &&& 85) := co_dec (N := 256) (P := fun v => ((v / 2 + 128 * 1) &&& 85) = ((v / 2) &&& 85)) (by decide +kernel) h
theorem B_2 {v : Nat} (h : v < 256) : ∀ r, r < 4 → ((v / 4 + 64 * r) &&& 51) = ((v / 4) &&& 51) := co_dec (N := 256) (P := fun v => ∀ r, r < 4 → ((v / 4 + 64 * r) &&& 51) = ((v / 4) &&& 51)) (by decide +kernel) h
theorem and_sp {lo hi m M : Nat} (h1 : lo < 256) (h2 : m < 256) : ((lo + 256 * hi) &&& (m + 256 * M)) = (lo &&& m) + 256 * (hi &&& M) := by
  have a := Nat.div_add_mod ((lo + 256 * hi) &&& (m + 256 * M)) 256
  have e1 : ((lo + 256 * hi) &&& (m + 256 * M)) / 256 = hi &&& M := by
    have := Nat.and_div_two_pow (a := lo + 256 * hi) (b := m + 256 * M) (n := 8)
    rw [show (2 : Nat) ^ 8 = 256 from rfl, show (lo + 256 * hi) / 256 = hi by omega, show (m + 256 * M) / 256 = M by omega] at this
    exact this
  have e2 : ((lo + 256 * hi) &&& (m + 256 * M)) % 256 = lo &&& m := by
    have := Nat.and_mod_two_pow (a := lo + 256 * hi) (b := m + 256 * M) (n := 8)
    rw [show (2 : Nat) ^ 8 = 256 from rfl, show (lo + 256 * hi) % 256 = lo by omega, show (m + 256 * M) % 256 = m by omega] at this
    exact this
  rw [e1, e2] at a
  omega
theorem sh_2 {v q M : Nat} (h : v < 256) : (((v + 256 * q) / 2) &&& (85 + 256 * M)) = ((v / 2) &&& 85) + 256 * ((q / 2) &&& M) := by
  have e : (v + 256 * q) / 2 = (v / 2 + 128 * (q % 2)) + 256 * (q / 2) := by omega
  rw [e, and_sp (by omega) (by decide)]
  rcases (show q % 2 = 0 ∨ q % 2 = 1 by omega) with z | z
  · rw [z, Nat.mul_zero, Nat.add_zero]
  · rw [z, B_1 h]
theorem sh_4 {v q M : Nat} (h : v < 256) : (((v + 256 * q) / 4) &&& (51 + 256 * M)) = ((v / 4) &&& 51) + 256 * ((q / 4) &&& M) := by
  have e : (v + 256 * q) / 4 = (v / 4 + 64 * (q % 4)) + 256 * (q / 4) := by omega
  rw [e, and_sp (by omega) (by decide), B_2 h (q % 4) (by omega)]
theorem bits_nat {a b c d : Nat} (ha : a < 256) (hb : b < 256) (hc : c < 256) (hd : d < 256) : ∃ x1 x2 x3 : Nat, (((a + 256 * (b + 256 * (c + 256 * d))) / 2) &&& 1431655765) ≤ (a + 256 * (b + 256 * (c + 256 * d))) ∧ x1 = (a + 256 * (b + 256 * (c + 256 * d))) - (((a + 256 * (b + 256 * (c + 256 * d))) / 2) &&& 1431655765) ∧ x2 = (x1 &&& 858993459) + ((x1 / 4) &&& 858993459) ∧ x3 = ((x2 + x2 / 16) &&& 252645135) ∧ x1 < 4294967296 ∧ x2 < 4294967296 ∧ x3 = pb a + 256 * (pb b + 256 * (pb c + 256 * pb d)) := by
  obtain ⟨a1, a2, a3, a4, a5⟩ := A_tab ha
  obtain ⟨b1, b2, b3, b4, b5⟩ := A_tab hb
  obtain ⟨c1, c2, c3, c4, c5⟩ := A_tab hc
  obtain ⟨d1, d2, d3, d4, d5⟩ := A_tab hd
  have e1 : (((a + 256 * (b + 256 * (c + 256 * d))) / 2) &&& 1431655765) = ((a / 2) &&& 85) + 256 * (((b / 2) &&& 85) + 256 * (((c / 2) &&& 85) + 256 * ((d / 2) &&& 85))) := by
    rw [show (1431655765 : Nat) = 85 + 256 * (85 + 256 * (85 + 256 * 85)) from rfl, sh_2 ha, sh_2 hb, sh_2 hc]
  have hx1 : (a + 256 * (b + 256 * (c + 256 * d))) - (((a + 256 * (b + 256 * (c + 256 * d))) / 2) &&& 1431655765) = A1 a + 256 * (A1 b + 256 * (A1 c + 256 * A1 d)) := by
    rw [e1]
    unfold A1
    omega
  have la : ∀ v, v < 256 → A1 v < 256 := fun v hv => by unfold A1; omega
  have e2 : ((A1 a + 256 * (A1 b + 256 * (A1 c + 256 * A1 d))) &&& 858993459) = (A1 a &&& 51) + 256 * ((A1 b &&& 51) + 256 * ((A1 c &&& 51) + 256 * (A1 d &&& 51))) := by
    rw [show (858993459 : Nat) = 51 + 256 * (51 + 256 * (51 + 256 * 51)) from rfl, and_sp (la a ha) (by decide), and_sp (la b hb) (by decide), and_sp (la c hc) (by decide)]
  have e3 : (((A1 a + 256 * (A1 b + 256 * (A1 c + 256 * A1 d))) / 4) &&& 858993459) = ((A1 a / 4) &&& 51) + 256 * (((A1 b / 4) &&& 51) + 256 * (((A1 c / 4) &&& 51) + 256 * ((A1 d / 4) &&& 51))) := by
    rw [show (858993459 : Nat) = 51 + 256 * (51 + 256 * (51 + 256 * 51)) from rfl, sh_4 (la a ha), sh_4 (la b hb), sh_4 (la c hc)]
  have hx2 : ((A1 a + 256 * (A1 b + 256 * (A1 c + 256 * A1 d))) &&& 858993459) + (((A1 a + 256 * (A1 b + 256 * (A1 c + 256 * A1 d))) / 4) &&& 858993459) = A2 a + 256 * (A2 b + 256 * (A2 c + 256 * A2 d)) := by
    rw [e2, e3]
    unfold A2
    omega
  have e4 : (A2 a + 256 * (A2 b + 256 * (A2 c + 256 * A2 d))) + (A2 a + 256 * (A2 b + 256 * (A2 c + 256 * A2 d))) / 16 = (A2 a + A2 a / 16 + 16 * (A2 b % 16)) + 256 * ((A2 b + A2 b / 16 + 16 * (A2 c % 16)) + 256 * ((A2 c + A2 c / 16 + 16 * (A2 d % 16)) + 256 * (A2 d + A2 d / 16))) := by omega
  have low : ∀ p r : Nat, (p + 16 * r) % 16 = p % 16 := fun p r => by omega
  have m15 : ∀ p : Nat, (p &&& 15) = p % 16 := fun p => Nat.and_two_pow_sub_one_eq_mod p 4
  have e5 : (((A2 a + 256 * (A2 b + 256 * (A2 c + 256 * A2 d))) + (A2 a + 256 * (A2 b + 256 * (A2 c + 256 * A2 d))) / 16) &&& 252645135) = pb a + 256 * (pb b + 256 * (pb c + 256 * pb d)) := by
    rw [e4, show (252645135 : Nat) = 15 + 256 * (15 + 256 * (15 + 256 * 15)) from rfl, and_sp (by omega) (by decide), and_sp (by omega) (by decide), and_sp (by omega) (by decide), d4, m15, m15, m15, low, low, low, ← m15, ← m15, ← m15, a4, b4, c4]
  refine ⟨_, _, _, ?_, rfl, rfl, rfl, ?_, ?_, ?_⟩
  · rw [e1]; omega
  · omega
  · rw [hx1, hx2]; omega
  · rw [hx1, hx2]; exact e5
theorem fold_nat {p0 p1 p2 p3 : Nat} (h0 : p0 ≤ 8) (h1 : p1 ≤ 8) (h2 : p2 ≤ 8) (h3 : p3 ≤ 8) : ∃ x4 x5 : Nat, x4 = (p0 + 256 * (p1 + 256 * (p2 + 256 * p3))) + (p0 + 256 * (p1 + 256 * (p2 + 256 * p3))) / 256 ∧ x5 = x4 + x4 / 65536 ∧ x4 < 4294967296 ∧ x5 % 64 = p0 + p1 + p2 + p3 := by
  refine ⟨_, _, rfl, rfl, by omega, ?_⟩
  have e1 : (p0 + 256 * (p1 + 256 * (p2 + 256 * p3))) + (p0 + 256 * (p1 + 256 * (p2 + 256 * p3))) / 256 = (p0 + p1) + 256 * ((p1 + p2) + 256 * ((p2 + p3) + 256 * p3)) := by omega
  rw [e1]
  clear e1
  have e2 : ((p0 + p1) + 256 * ((p1 + p2) + 256 * ((p2 + p3) + 256 * p3))) / 65536 = (p2 + p3) + 256 * p3 := by omega
  rw [e2]
  omega
theorem nI_and {a b : Nat} : nI a &&& nI b = nI (a &&& b) := by
  apply Int32.toBitVec_inj.mp
  show BitVec.ofNat 32 a &&& BitVec.ofNat 32 b = BitVec.ofNat 32 (a &&& b)
  exact BitVec.ofNat_and.symm
theorem nI_ofK (K : Int32) : K = nI K.toBitVec.toNat := by
  apply Int32.toBitVec_inj.mp
  show K.toBitVec = BitVec.ofNat 32 K.toBitVec.toNat
  exact (BitVec.ofNat_toNat 32 K.toBitVec).symm ▸ by simp
theorem bc_nat {a b c d : Nat} (ha : a < 256) (hb : b < 256) (hc : c < 256) (hd : d < 256) : fJ6_bitCount_0f7a4 (nI (a + 256 * (b + 256 * (c + 256 * d)))) = some (nI (pb a + pb b + pb c + pb d)) := by
  obtain ⟨x1, x2, x3, h0, h1, h2, h3, h4, h5, h6⟩ := bits_nat ha hb hc hd
  obtain ⟨x4, x5, g1, g2, g3, g4⟩ := fold_nat (A_tab ha).2.2.2.2 (A_tab hb).2.2.2.2 (A_tab hc).2.2.2.2 (A_tab hd).2.2.2.2
  rw [← h6] at g1
  have m1 : (1431655765 : Int32) = nI 1431655765 := rfl
  have m2 : (858993459 : Int32) = nI 858993459 := rfl
  have m3 : (252645135 : Int32) = nI 252645135 := rfl
  have m4 : (63 : Int32) = nI 63 := rfl
  have u1 : ((nI (a + 256 * (b + 256 * (c + 256 * d)))).toUInt32 >>> ((1 : Int32).toUInt32 &&& Int32.toUInt32 31)).toInt32 = nI ((a + 256 * (b + 256 * (c + 256 * d))) / 2 ^ 1) := pk_ushrN (by omega) 1 1 (by decide)
  have u2 : ((nI x1).toUInt32 >>> ((2 : Int32).toUInt32 &&& Int32.toUInt32 31)).toInt32 = nI (x1 / 2 ^ 2) := pk_ushrN h4 2 2 (by decide)
  have u3 : ((nI x2).toUInt32 >>> ((4 : Int32).toUInt32 &&& Int32.toUInt32 31)).toInt32 = nI (x2 / 2 ^ 4) := pk_ushrN h5 4 4 (by decide)
  have h63 : x3 < 4294967296 := by
    have := (A_tab ha).2.2.2.2
    have := (A_tab hb).2.2.2.2
    have := (A_tab hc).2.2.2.2
    have := (A_tab hd).2.2.2.2
    omega
  have u4 : ((nI x3).toUInt32 >>> ((8 : Int32).toUInt32 &&& Int32.toUInt32 31)).toInt32 = nI (x3 / 2 ^ 8) := pk_ushrN h63 8 8 (by decide)
  have u5 : ((nI x4).toUInt32 >>> ((16 : Int32).toUInt32 &&& Int32.toUInt32 31)).toInt32 = nI (x4 / 2 ^ 16) := pk_ushrN g3 16 16 (by decide)
  have m64 : (x5 &&& 63) = x5 % 64 := Nat.and_two_pow_sub_one_eq_mod x5 6
  unfold fJ6_bitCount_0f7a4
  simp only [lt_def]
  rw [u1, m1, nI_and, show (2 : Nat) ^ 1 = 2 from rfl, pk_sub h0, ← h1, u2, m2, nI_and, nI_and, show (2 : Nat) ^ 2 = 4 from rfl, nI_add, ← h2, u3, show (2 : Nat) ^ 4 = 16 from rfl, nI_add, m3, nI_and, ← h3, u4, show (2 : Nat) ^ 8 = 256 from rfl, nI_add, ← g1, u5, show (2 : Nat) ^ 16 = 65536 from rfl, nI_add, ← g2, m4, nI_and, m64, g4]
theorem su_8 (f : Int → Int) (a : Int) : su f a (a + 8) = f a + f (a + 1) + f (a + 2) + f (a + 3) + f (a + 4) + f (a + 5) + f (a + 6) + f (a + 7) := by
  rw [show a + 8 = a + 7 + 1 by omega, su_s f (by omega), show su f a (a + 7) = su f a (a + 6 + 1) by rw [show a + 7 = a + 6 + 1 by omega], su_s f (by omega), show su f a (a + 6) = su f a (a + 5 + 1) by rw [show a + 6 = a + 5 + 1 by omega], su_s f (by omega), show su f a (a + 5) = su f a (a + 4 + 1) by rw [show a + 5 = a + 4 + 1 by omega], su_s f (by omega), show su f a (a + 4) = su f a (a + 3 + 1) by rw [show a + 4 = a + 3 + 1 by omega], su_s f (by omega), show su f a (a + 3) = su f a (a + 2 + 1) by rw [show a + 3 = a + 2 + 1 by omega], su_s f (by omega), show su f a (a + 2) = su f a (a + 1 + 1) by rw [show a + 2 = a + 1 + 1 by omega], su_s f (by omega), su_s f (Int.le_refl a), su_0]
  omega
theorem c_ones {K : Int32} (hz : ∀ j : Int, 24 ≤ j → hb K j = false) : fJ6_bitCount_0f7a4 K = some (iZ (su (onz K) 0 24)) := by
  obtain ⟨x, hx⟩ : ∃ x, x = K.toBitVec.toNat := ⟨_, rfl⟩
  have hlt : x < 4294967296 := by rw [hx]; exact K.toBitVec.isLt
  have hbit : ∀ j : Nat, hb K (j : Int) = x.testBit j := fun j => by
    rw [hx, BitVec.testBit_toNat]
    rfl
  have e : x = x % 256 + 256 * (x / 256 % 256 + 256 * (x / 65536 % 256 + 256 * (x / 16777216 % 256))) := by omega
  have byte : ∀ i r : Nat, r < 8 → (x / 2 ^ (8 * i) % 2 ^ 8).testBit r = x.testBit (r + 8 * i) := by
    intro i r hr
    rw [Nat.testBit_mod_two_pow, Nat.testBit_div_two_pow, decide_eq_true hr, Bool.true_and]
  have hbi : ∀ b : Bool, (b.toNat : Int) = bi b := by decide
  have grp : ∀ i : Nat, (pb (x / 2 ^ (8 * i) % 2 ^ 8) : Int) = su (onz K) (8 * i) (8 * i + 8) := by
    intro i
    rw [su_8]
    unfold pb onz
    rw [byte i 0 (by decide), byte i 1 (by decide), byte i 2 (by decide), byte i 3 (by decide), byte i 4 (by decide), byte i 5 (by decide), byte i 6 (by decide), byte i 7 (by decide)]
    have q : ∀ r : Nat, hb K (8 * (i : Int) + (r : Int)) = x.testBit (r + 8 * i) := fun r => by
      rw [← hbit]
      congr 1
      omega
    have q0 := q 0
    have q1 := q 1
    have q2 := q 2
    have q3 := q 3
    have q4 := q 4
    have q5 := q 5
    have q6 := q 6
    have q7 := q 7
    rw [show 8 * (i : Int) + ((0 : Nat) : Int) = 8 * i by omega] at q0
    rw [show 8 * (i : Int) + ((1 : Nat) : Int) = 8 * i + 1 by omega] at q1
    rw [show 8 * (i : Int) + ((2 : Nat) : Int) = 8 * i + 2 by omega] at q2
    rw [show 8 * (i : Int) + ((3 : Nat) : Int) = 8 * i + 3 by omega] at q3
    rw [show 8 * (i : Int) + ((4 : Nat) : Int) = 8 * i + 4 by omega] at q4
    rw [show 8 * (i : Int) + ((5 : Nat) : Int) = 8 * i + 5 by omega] at q5
    rw [show 8 * (i : Int) + ((6 : Nat) : Int) = 8 * i + 6 by omega] at q6
    rw [show 8 * (i : Int) + ((7 : Nat) : Int) = 8 * i + 7 by omega] at q7
    rw [q0, q1, q2, q3, q4, q5, q6, q7, ← hbi, ← hbi, ← hbi, ← hbi, ← hbi, ← hbi, ← hbi, ← hbi]
    omega
  have g0 := grp 0
  have g1 := grp 1
  have g2 := grp 2
  have top : pb (x / 16777216 % 256) = 0 := by
    have g3 := grp 3
    have : su (onz K) (8 * ((3 : Nat) : Int)) (8 * ((3 : Nat) : Int) + 8) = 0 := by
      rw [su_skip (onz K) (a := 8 * ((3 : Nat) : Int)) (k := 8 * ((3 : Nat) : Int)) (by omega) (by omega) (fun j a b => by unfold onz; rw [hz j (by omega)]; rfl), su_0]
    rw [this] at g3
    have e2 : x / 2 ^ (8 * 3) % 2 ^ 8 = x / 16777216 % 256 := rfl
    rw [e2] at g3
    omega
  have hK : K = nI (x % 256 + 256 * (x / 256 % 256 + 256 * (x / 65536 % 256 + 256 * (x / 16777216 % 256)))) := by
    rw [← e, hx]
    exact nI_ofK K
  have r := bc_nat (a := x % 256) (b := x / 256 % 256) (c := x / 65536 % 256) (d := x / 16777216 % 256) (by omega) (by omega) (by omega) (by omega)
  rw [← hK] at r
  rw [r, ← iZ_nI]
  congr 2
  have f0 : x / 2 ^ (8 * 0) % 2 ^ 8 = x % 256 := by
    show x / 1 % 256 = _
    rw [Nat.div_one]
  have f1 : x / 2 ^ (8 * 1) % 2 ^ 8 = x / 256 % 256 := rfl
  have f2 : x / 2 ^ (8 * 2) % 2 ^ 8 = x / 65536 % 256 := rfl
  rw [f0] at g0
  rw [f1] at g1
  rw [f2] at g2
  have s1 := su_split (onz K) (a := 0) (b := 8) (k := 24) (by decide) (by decide)
  have s2 := su_split (onz K) (a := 8) (b := 16) (k := 24) (by decide) (by decide)
  have t0 : su (onz K) (8 * ((0 : Nat) : Int)) (8 * ((0 : Nat) : Int) + 8) = su (onz K) 0 8 := rfl
  have t1 : su (onz K) (8 * ((1 : Nat) : Int)) (8 * ((1 : Nat) : Int) + 8) = su (onz K) 8 16 := rfl
  have t2 : su (onz K) (8 * ((2 : Nat) : Int)) (8 * ((2 : Nat) : Int) + 8) = su (onz K) 16 24 := rfl
  omega
theorem MK.ones {n : Int} {K : Int32} (M : MK n K) : fJ6_bitCount_0f7a4 K = some (iZ (su (onz K) 0 24)) ∧ 0 ≤ su (onz K) 0 24 ∧ su (onz K) 0 24 ≤ 24 := by
  refine ⟨c_ones (fun j hj => ?_), ?_⟩
  · cases h : hb K j with
    | false => rfl
    | true =>
      have := M.2.2.2 j (by omega) h
      have := M.1
      omega
  · have := su_bd (onz K) 1 (a := 0) (k := 24) (by decide) (fun i _ _ => onz_b K i)
    omega
