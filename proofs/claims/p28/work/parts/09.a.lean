/-! the pure part: numbers, bits, loops -/
def iZ (a : Int) : Int32 := Int32.ofInt a
def lZ (a : Int) : Int64 := Int64.ofInt a
theorem iZ_T {a : Int} (h1 : -2147483648 ≤ a) (h2 : a < 2147483648) : (iZ a).toInt = a := Int32.toInt_ofInt_of_le h1 h2
theorem lZ_T {a : Int} (h1 : -9223372036854775808 ≤ a) (h2 : a < 9223372036854775808) : (lZ a).toInt = a := Int64.toInt_ofInt_of_le h1 h2
theorem iZ_add (a b : Int) : iZ a + iZ b = iZ (a + b) := (Int32.ofInt_add a b).symm
theorem iZ_sub (a b : Int) : iZ a - iZ b = iZ (a - b) := (Int32.ofInt_sub a b).symm
theorem iZ_mul (a b : Int) : iZ a * iZ b = iZ (a * b) := (Int32.ofInt_mul a b).symm
theorem iZ_neg (a : Int) : -iZ a = iZ (-a) := (Int32.ofInt_neg a).symm
theorem lZ_add (a b : Int) : lZ a + lZ b = lZ (a + b) := (Int64.ofInt_add a b).symm
theorem lZ_sub (a b : Int) : lZ a - lZ b = lZ (a - b) := (Int64.ofInt_sub a b).symm
theorem lZ_mul (a b : Int) : lZ a * lZ b = lZ (a * b) := (Int64.ofInt_mul a b).symm
theorem iZ_lt {a b : Int} (h1 : -2147483648 ≤ a) (h2 : a < 2147483648) (h3 : -2147483648 ≤ b) (h4 : b < 2147483648) : (iZ a < iZ b) = (a < b) := propext (by rw [Int32.lt_iff_toInt_lt, iZ_T h1 h2, iZ_T h3 h4])
theorem iZ_le {a b : Int} (h1 : -2147483648 ≤ a) (h2 : a < 2147483648) (h3 : -2147483648 ≤ b) (h4 : b < 2147483648) : (iZ a ≤ iZ b) = (a ≤ b) := propext (by rw [Int32.le_iff_toInt_le, iZ_T h1 h2, iZ_T h3 h4])
theorem iZ_eq {a b : Int} (h1 : -2147483648 ≤ a) (h2 : a < 2147483648) (h3 : -2147483648 ≤ b) (h4 : b < 2147483648) : (iZ a = iZ b) = (a = b) := propext (by rw [← Int32.toInt_inj, iZ_T h1 h2, iZ_T h3 h4])
theorem lZ_lt {a b : Int} (h1 : -9223372036854775808 ≤ a) (h2 : a < 9223372036854775808) (h3 : -9223372036854775808 ≤ b) (h4 : b < 9223372036854775808) : (lZ a < lZ b) = (a < b) := propext (by rw [Int64.lt_iff_toInt_lt, lZ_T h1 h2, lZ_T h3 h4])
theorem lZ_le {a b : Int} (h1 : -9223372036854775808 ≤ a) (h2 : a < 9223372036854775808) (h3 : -9223372036854775808 ≤ b) (h4 : b < 9223372036854775808) : (lZ a ≤ lZ b) = (a ≤ b) := propext (by rw [Int64.le_iff_toInt_le, lZ_T h1 h2, lZ_T h3 h4])
theorem lZ_eq {a b : Int} (h1 : -9223372036854775808 ≤ a) (h2 : a < 9223372036854775808) (h3 : -9223372036854775808 ≤ b) (h4 : b < 9223372036854775808) : (lZ a = lZ b) = (a = b) := propext (by rw [← Int64.toInt_inj, lZ_T h1 h2, lZ_T h3 h4])
theorem iZ_64 {a : Int} (h1 : -2147483648 ≤ a) (h2 : a < 2147483648) : (iZ a).toInt64 = lZ a := by
  rw [← Int64.toInt_inj, Int32.toInt_toInt64, iZ_T h1 h2, lZ_T (by omega) (by omega)]
theorem iZ_N {a : Int} (h1 : -2147483648 ≤ a) (h2 : a < 2147483648) : (iZ a).toNatClampNeg = a.toNat := Int32.toNatClampNeg_ofInt_of_le h1 h2
theorem iZ_of (x : Int32) : x = iZ x.toInt := (Int32.ofInt_toInt x).symm
theorem iZ_rg (x : Int32) : ∃ a : Int, x = iZ a ∧ -2147483648 ≤ a ∧ a < 2147483648 := ⟨x.toInt, iZ_of x, Int32.le_toInt x, Int32.toInt_lt x⟩
theorem lZ_div {a b : Int} (h0 : 0 ≤ a) (h2 : a < 9223372036854775808) (h3 : 0 < b) (h4 : b < 9223372036854775808) : lZ a / lZ b = lZ (a / b) := by
  have hb : lZ b ≠ -1 := by
    intro h
    have h' := congrArg Int64.toInt h
    rw [lZ_T (by omega) h4] at h'
    have : (-1 : Int64).toInt = -1 := by decide
    omega
  have hd : 0 ≤ a / b ∧ a / b ≤ a := ⟨Int.ediv_nonneg h0 (by omega), Int.ediv_le_self b h0⟩
  rw [← Int64.toInt_inj, Int64.toInt_div_of_ne_right _ _ hb, lZ_T (by omega) h2, lZ_T (by omega) h4, lZ_T (by omega) (by omega), Int.tdiv_eq_ediv_of_nonneg h0]
theorem inb_Z {a : Int} {n : Nat} (h0 : 0 ≤ a) (h1 : a < n) (h2 : a < 2147483648) : inb (iZ a) n = true := by
  unfold inb
  rw [iZ_N (by omega) h2]
  apply decide_eq_true
  intro h
  rcases h with h | h
  · have e : (iZ a < 0) = (a < 0) := iZ_lt (b := 0) (by omega) h2 (by decide) (by decide)
    rw [e] at h
    omega
  · omega
theorem gd_true {α : Type} (x : Option α) : gd true x = x := rfl
theorem gd_dec {α : Type} {P : Prop} [Decidable P] (x : Option α) (h : P) : gd (decide P) x = x := by
  rw [decide_eq_true h]
  rfl
theorem lt_def {α β : Type} (x : α) (f : α → Option β) : lt x f = f x := rfl
theorem isb_0 : isb (iZ 0) = true := by decide
theorem isb_1 : isb (iZ 1) = true := by decide
theorem bind_s {α β : Type} (a : α) (f : α → Option β) : (some a).bind f = f a := rfl
theorem li0 : (0 : Int32) = iZ 0 := rfl
theorem li1 : (1 : Int32) = iZ 1 := rfl
theorem li2 : (2 : Int32) = iZ 2 := rfl
theorem li3 : (3 : Int32) = iZ 3 := rfl
theorem li4 : (4 : Int32) = iZ 4 := rfl
theorem li5 : (5 : Int32) = iZ 5 := rfl
theorem li6 : (6 : Int32) = iZ 6 := rfl
theorem li9 : (9 : Int32) = iZ 9 := rfl
theorem li10 : (10 : Int32) = iZ 10 := rfl
theorem li16 : (16 : Int32) = iZ 16 := rfl
theorem li20 : (20 : Int32) = iZ 20 := rfl
theorem li23 : (23 : Int32) = iZ 23 := rfl
theorem li24 : (24 : Int32) = iZ 24 := rfl
theorem li25 : (25 : Int32) = iZ 25 := rfl
theorem li31 : (31 : Int32) = iZ 31 := rfl
theorem li33 : (33 : Int32) = iZ 33 := rfl
theorem li44 : (44 : Int32) = iZ 44 := rfl
theorem li48 : (48 : Int32) = iZ 48 := rfl
theorem li49 : (49 : Int32) = iZ 49 := rfl
theorem li50 : (50 : Int32) = iZ 50 := rfl
theorem li51 : (51 : Int32) = iZ 51 := rfl
theorem li57 : (57 : Int32) = iZ 57 := rfl
theorem li59 : (59 : Int32) = iZ 59 := rfl
theorem li60 : (60 : Int32) = iZ 60 := rfl
theorem li63 : (63 : Int32) = iZ 63 := rfl
theorem li69 : (69 : Int32) = iZ 69 := rfl
theorem li70 : (70 : Int32) = iZ 70 := rfl
theorem li71 : (71 : Int32) = iZ 71 := rfl
theorem li72 : (72 : Int32) = iZ 72 := rfl
theorem li74 : (74 : Int32) = iZ 74 := rfl
theorem li99 : (99 : Int32) = iZ 99 := rfl
theorem li100 : (100 : Int32) = iZ 100 := rfl
theorem li119 : (119 : Int32) = iZ 119 := rfl
theorem li126 : (126 : Int32) = iZ 126 := rfl
theorem li250 : (250 : Int32) = iZ 250 := rfl
theorem li296 : (296 : Int32) = iZ 296 := rfl
theorem li297 : (297 : Int32) = iZ 297 := rfl
theorem li298 : (298 : Int32) = iZ 298 := rfl
theorem li299 : (299 : Int32) = iZ 299 := rfl
theorem li300 : (300 : Int32) = iZ 300 := rfl
theorem li301 : (301 : Int32) = iZ 301 := rfl
theorem li302 : (302 : Int32) = iZ 302 := rfl
theorem li303 : (303 : Int32) = iZ 303 := rfl
theorem li606 : (606 : Int32) = iZ 606 := rfl
theorem li1515 : (1515 : Int32) = iZ 1515 := rfl
theorem li1818 : (1818 : Int32) = iZ 1818 := rfl
theorem li16384 : (16384 : Int32) = iZ 16384 := rfl
theorem li1048576 : (1048576 : Int32) = iZ 1048576 := rfl
theorem li2147483647 : (2147483647 : Int32) = iZ 2147483647 := rfl
theorem li10000 : (10000 : Int32) = iZ 10000 := rfl
theorem lj0 : (0 : Int64) = lZ 0 := rfl
theorem lj1 : (1 : Int64) = lZ 1 := rfl
theorem lj10000 : (10000 : Int64) = lZ 10000 := rfl
-- loops
theorem lp_in {σ ρ : Type} {f : σ → Option (σ ⊕ ρ)} {s t : σ} {r : ρ} (h : f s = some (.inl t)) (h2 : lp f t = some r) : lp f s = some r := by
  rw [lp_eq, h]
  exact h2
theorem lp_out {σ ρ : Type} {f : σ → Option (σ ⊕ ρ)} {s : σ} {r : ρ} (h : f s = some (.inr r)) : lp f s = some r := by
  rw [lp_eq, h]
  rfl
theorem lp_fold {σ ρ : Type} {f : σ → Option (σ ⊕ ρ)} (S : Int → σ) {i n : Int} {r : ρ} (hin : i ≤ n) (hs : ∀ k, i ≤ k → k < n → f (S k) = some (.inl (S (k + 1)))) (he : f (S n) = some (.inr r)) : lp f (S i) = some r := by
  obtain ⟨m, hm⟩ : ∃ m : Nat, (m : Int) = n - i := ⟨(n - i).toNat, by omega⟩
  induction m generalizing i with
  | zero =>
    have : i = n := by omega
    subst this
    exact lp_out he
  | succ m ih =>
    exact lp_in (hs i (Int.le_refl i) (by omega)) (ih (by omega) (fun k h1 h2 => hs k (by omega) h2) (by omega))
theorem lp_down {σ ρ : Type} {f : σ → Option (σ ⊕ ρ)} (S : Int → σ) {i n : Int} {r : ρ} (hin : n ≤ i) (hs : ∀ k, n < k → k ≤ i → f (S k) = some (.inl (S (k - 1)))) (he : f (S n) = some (.inr r)) : lp f (S i) = some r := by
  obtain ⟨m, hm⟩ : ∃ m : Nat, (m : Int) = i - n := ⟨(i - n).toNat, by omega⟩
  induction m generalizing i with
  | zero =>
    have : i = n := by omega
    subst this
    exact lp_out he
  | succ m ih =>
    exact lp_in (hs i (by omega) (Int.le_refl i)) (ih (by omega) (fun k h1 h2 => hs k h1 (by omega)) (by omega))
/-- a loop over states that fall by a measure -/
theorem lp_mu {σ ρ : Type} {f : σ → Option (σ ⊕ ρ)} (I : σ → Prop) (μ : σ → Nat) (Q : ρ → Prop) (hs : ∀ s, I s → (∃ t, f s = some (.inl t) ∧ I t ∧ μ t < μ s) ∨ ∃ r, f s = some (.inr r) ∧ Q r) (s : σ) (h : I s) : ∃ r, lp f s = some r ∧ Q r := by
  obtain ⟨m, hm⟩ : ∃ m, μ s ≤ m := ⟨μ s, Nat.le_refl _⟩
  induction m generalizing s with
  | zero =>
    rcases hs s h with ⟨t, h1, h2, h3⟩ | ⟨r, h1, h2⟩
    · omega
    · exact ⟨r, lp_out h1, h2⟩
  | succ m ih =>
    rcases hs s h with ⟨t, h1, h2, h3⟩ | ⟨r, h1, h2⟩
    · obtain ⟨r, h4, h5⟩ := ih t h2 (by omega)
      exact ⟨r, lp_in h1 h4, h5⟩
    · exact ⟨r, lp_out h1, h2⟩
-- bits
def hb (K : Int32) (k : Int) : Bool := K.toBitVec.getLsbD k.toNat
theorem b31 : (31 : Int32) = iZ 31 := rfl
theorem nat_of {k : Int} (h : 0 ≤ k) : ∃ m : Nat, k = m := ⟨k.toNat, by omega⟩
theorem sm_31 {m : Nat} (h : m < 32) : (iZ m &&& 31).toBitVec.smod 32 = BitVec.ofNat 32 m := co_dec (N := 32) (P := fun m => (iZ m &&& 31).toBitVec.smod 32 = BitVec.ofNat 32 m) (by decide +kernel) h
theorem sh_bit (K : Int32) {m : Nat} (h : m < 32) : (K >>> (iZ m &&& 31)) &&& 1 = if K.toBitVec.getLsbD m then 1 else 0 := by
  apply Int32.toBitVec_inj.mp
  have e : ((K >>> (iZ m &&& 31)) &&& 1).toBitVec = (BitVec.sshiftRight' K.toBitVec ((iZ m &&& 31).toBitVec.smod 32)) &&& 1#32 := rfl
  rw [e, sm_31 h, BitVec.sshiftRight'_ofNat_eq_sshiftRight, Nat.mod_eq_of_lt (by omega)]
  apply BitVec.eq_of_getLsbD_eq
  intro i hi
  rw [BitVec.getLsbD_and, BitVec.getLsbD_sshiftRight, BitVec.getLsbD_one]
  cases i with
  | zero =>
    cases hK : K.toBitVec.getLsbD m <;> simp [hK, h]
  | succ i =>
    cases hK : K.toBitVec.getLsbD m <;> simp
theorem hb_c {K : Int32} {k : Int} (h0 : 0 ≤ k) (h1 : k < 32) : ((K >>> (iZ k &&& iZ 31)) &&& iZ 1 = iZ 0) = (hb K k = false) := by
  rw [← li31, ← li1]
  obtain ⟨m, rfl⟩ := nat_of h0
  rw [sh_bit K (by omega)]
  show _ = (K.toBitVec.getLsbD m = false)
  cases K.toBitVec.getLsbD m <;> decide
theorem hb_r {K : Int32} {k : Int} (h0 : 0 ≤ k) (h1 : k < 32) : ((K >>> (iZ k &&& iZ 31)) &&& iZ 1 = iZ 1) = (hb K k = true) := by
  rw [← li31, ← li1]
  obtain ⟨m, rfl⟩ := nat_of h0
  rw [sh_bit K (by omega)]
  show _ = (K.toBitVec.getLsbD m = true)
  cases K.toBitVec.getLsbD m <;> decide
theorem hb_v {K : Int32} {k : Int} (h0 : 0 ≤ k) (h1 : k < 32) : ((K >>> (iZ k &&& iZ 31)) &&& iZ 1) = iZ (if hb K k then 1 else 0) := by
  rw [← li31, ← li1]
  obtain ⟨m, rfl⟩ := nat_of h0
  rw [sh_bit K (by omega)]
  show _ = iZ (if K.toBitVec.getLsbD m then 1 else 0)
  cases K.toBitVec.getLsbD m <;> decide
theorem one_sh {m : Nat} (h : m < 32) : ((1 : Int32) <<< (iZ m &&& 31)).toBitVec = BitVec.twoPow 32 m := co_dec (N := 32) (P := fun m => ((1 : Int32) <<< (iZ m &&& 31)).toBitVec = BitVec.twoPow 32 m) (by decide +kernel) h
theorem hb_or {K : Int32} {k j : Int} (h0 : 0 ≤ k) (h1 : k < 32) (h2 : 0 ≤ j) : hb (K ||| (iZ 1 <<< (iZ k &&& iZ 31))) j = (hb K j || decide (j = k)) := by
  rw [← li31, ← li1]
  obtain ⟨m, rfl⟩ := nat_of h0
  obtain ⟨i, rfl⟩ := nat_of h2
  have e : (K ||| (1 <<< (iZ m &&& 31))).toBitVec = K.toBitVec ||| ((1 : Int32) <<< (iZ m &&& 31)).toBitVec := rfl
  unfold hb
  rw [e, one_sh (by omega), BitVec.getLsbD_or, BitVec.getLsbD_twoPow]
  congr 1
  have : decide ((i : Int) = m) = decide (m = i) := by
    apply decide_eq_decide.mpr
    omega
  rw [this]
  have h3 : decide (m < 32) = true := decide_eq_true (by omega)
  rw [h3]
  rfl
def allK (n : Int) : Int32 := (iZ 1 <<< (iZ n &&& iZ 31)) - iZ 1
theorem hb_all {n j : Int} (h0 : 0 ≤ n) (h1 : n ≤ 24) (h2 : 0 ≤ j) : hb (allK n) j = decide (j < n) := by
  obtain ⟨m, rfl⟩ := nat_of h0
  obtain ⟨i, rfl⟩ := nat_of h2
  show (allK m).toBitVec.getLsbD i = _
  have h3 : decide ((i : Int) < m) = decide (i < m) := decide_eq_decide.mpr (by omega)
  rw [h3]
  by_cases hi : i < 32
  · have := co_dec (N := 25) (P := fun m => (List.range 32).all (fun i => (allK (m : Nat)).toBitVec.getLsbD i == decide (i < m)) = true) (by decide +kernel) (i := m) (by omega)
    have := List.all_eq_true.mp this i (List.mem_range.mpr hi)
    exact eq_of_beq this
  · rw [BitVec.getLsbD_of_ge _ _ (by omega)]
    exact (decide_eq_false (by omega)).symm
theorem hb_ext {K L : Int32} (h : ∀ j : Int, 0 ≤ j → j < 32 → hb K j = hb L j) : K = L := by
  apply Int32.toBitVec_inj.mp
  apply BitVec.eq_of_getLsbD_eq
  intro i hi
  exact h i (by omega) (by omega)
theorem hb_0 (j : Int) : hb 0 j = false := by
  unfold hb
  show (0#32).getLsbD _ = false
  exact BitVec.getLsbD_zero
