/-! the reference's fewest points; numbers of points -/
theorem nat_lt_bit {x y i : Nat} (hx : x.testBit i = false) (hy : y.testBit i = true) (h : ∀ j, i < j → x.testBit j = y.testBit j) : x < y := by
  have e : x / 2 ^ (i + 1) = y / 2 ^ (i + 1) := by
    apply Nat.eq_of_testBit_eq
    intro j
    rw [Nat.testBit_div_two_pow, Nat.testBit_div_two_pow]
    exact h _ (by omega)
  rw [Nat.testBit_eq_decide_div_mod_eq] at hx hy
  have hx := of_decide_eq_false hx
  have hy := of_decide_eq_true hy
  have p : ∀ z : Nat, z / 2 ^ (i + 1) = z / 2 ^ i / 2 := fun z => by rw [Nat.div_div_eq_div_mul, Nat.pow_succ]
  rw [p, p] at e
  rcases Nat.lt_or_ge x y with q | q
  · exact q
  · have := Nat.div_le_div_right (c := 2 ^ i) q
    omega
theorem lt_bits {X Y : Int32} {p : Int} (p0 : 0 ≤ p) (p1 : p < 31) (hX : hb X p = false) (hY : hb Y p = true) (h : ∀ j : Int, p < j → hb X j = hb Y j) (hz : hb Y 31 = false) : X < Y := by
  have hz2 : hb X 31 = false := by rw [h 31 (by omega)]; exact hz
  have m1 : Y.toBitVec.msb = false := by rw [BitVec.msb_eq_getLsbD_last]; exact hz
  have m2 : X.toBitVec.msb = false := by rw [BitVec.msb_eq_getLsbD_last]; exact hz2
  have t1 : Y.toInt = (Y.toBitVec.toNat : Int) := BitVec.toInt_eq_toNat_of_msb m1
  have t2 : X.toInt = (X.toBitVec.toNat : Int) := BitVec.toInt_eq_toNat_of_msb m2
  rw [Int32.lt_iff_toInt_lt, t1, t2]
  have : X.toBitVec.toNat < Y.toBitVec.toNat := by
    refine nat_lt_bit (i := p.toNat) ?_ ?_ ?_
    · rw [BitVec.testBit_toNat]; exact hX
    · rw [BitVec.testBit_toNat]; exact hY
    · intro j hj
      rw [BitVec.testBit_toNat, BitVec.testBit_toNat]
      have := h j (by omega)
      unfold hb at this
      rw [show ((j : Int)).toNat = j by omega] at this
      exact this
  omega
theorem Tab.or_le {N : Int → Int} {F : Int32} {bd to : Int} {C : Int → Int} {S : Int → Int32} (T : Tab N F bd to C S) (h24 : to < 24) {b k : Int} (b0 : 0 ≤ b) (bk : b < k) (k1 : k < to) : S b ||| bitZ to ≤ S k ||| bitZ to := by
  obtain ⟨-, -, b2, b3⟩ := T.b (by omega) b0 (show b < to by omega)
  obtain ⟨-, -, c2, c3⟩ := T.b (by omega) (show 0 ≤ k by omega) k1
  have o1 : ∀ X : Int32, ∀ j : Int, 0 ≤ j → hb (X ||| bitZ to) j = (hb X j || decide (j = to)) := fun X j j0 => hb_or (by omega) (by omega) j0
  refine Int32.le_of_lt (lt_bits (p := k) (by omega) (by omega) ?_ ?_ (fun j hj => ?_) ?_)
  · rw [o1 _ _ (by omega), b3 k bk, decide_eq_false (by omega)]; rfl
  · rw [o1 _ _ (by omega), c2]; rfl
  · rw [o1 _ _ (by omega), o1 _ _ (by omega), b3 j (by omega), c3 j hj]
  · rw [o1 _ _ (by omega), c3 31 (by omega), decide_eq_false (by omega)]; rfl
