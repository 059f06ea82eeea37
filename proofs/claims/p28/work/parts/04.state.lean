abbrev SS : Type := (Nat → Int32) × Int32 × Int32
abbrev S_numbers (u : SS) : (Nat → Int32) := u.1
abbrev S_size (u : SS) : Int32 := u.2.1
abbrev S_kept (u : SS) : Int32 := u.2.2
abbrev S_s_numbers (u : SS) (v : (Nat → Int32)) : SS := (v, u.2)
abbrev S_s_size (u : SS) (v : Int32) : SS := (u.1, v, u.2.2)
abbrev S_s_kept (u : SS) (v : Int32) : SS := (u.1, u.2.1, v)
abbrev wS (g : kG) (a : Nat → Nat) (u : SS) : va_W := [(a 0, .inr (3, [.ref (a 1), .int (S_size u), .int (S_kept u)])), (a 1, .inl (kI g, 72, .inl (S_numbers u)))]
abbrev PS : Type := (Nat → Int32) × (Nat → Int32) × (Nat → Int32)
abbrev P_needs (u : PS) : (Nat → Int32) := u.1
abbrev P_counts (u : PS) : (Nat → Int32) := u.2.1
abbrev P_masks (u : PS) : (Nat → Int32) := u.2.2
abbrev P_s_needs (u : PS) (v : (Nat → Int32)) : PS := (v, u.2)
abbrev P_s_counts (u : PS) (v : (Nat → Int32)) : PS := (u.1, v, u.2.2)
abbrev P_s_masks (u : PS) (v : (Nat → Int32)) : PS := (u.1, u.2.1, v)
abbrev wP (g : kG) (a : Nat → Nat) (u : PS) : va_W := [(a 0, .inr (2, [.ref (a 1), .ref (a 2), .ref (a 3)])), (a 1, .inl (kI g, 576, .inl (P_needs u))), (a 2, .inl (kI g, 24, .inl (P_counts u))), (a 3, .inl (kI g, 24, .inl (P_masks u)))]
abbrev TS : Type := (Nat → Int32) × Int32 × Int32 × Int32 × Int32 × Int32 × Int32
abbrev T_codes (u : TS) : (Nat → Int32) := u.1
abbrev T_length (u : TS) : Int32 := u.2.1
abbrev T_part (u : TS) : Int32 := u.2.2.1
abbrev T_digits (u : TS) : Int32 := u.2.2.2.1
abbrev T_number (u : TS) : Int32 := u.2.2.2.2.1
abbrev T_x (u : TS) : Int32 := u.2.2.2.2.2.1
abbrev T_y (u : TS) : Int32 := u.2.2.2.2.2.2
abbrev T_s_codes (u : TS) (v : (Nat → Int32)) : TS := (v, u.2)
abbrev T_s_length (u : TS) (v : Int32) : TS := (u.1, v, u.2.2)
abbrev T_s_part (u : TS) (v : Int32) : TS := (u.1, u.2.1, v, u.2.2.2)
abbrev T_s_digits (u : TS) (v : Int32) : TS := (u.1, u.2.1, u.2.2.1, v, u.2.2.2.2)
abbrev T_s_number (u : TS) (v : Int32) : TS := (u.1, u.2.1, u.2.2.1, u.2.2.2.1, v, u.2.2.2.2.2)
abbrev T_s_x (u : TS) (v : Int32) : TS := (u.1, u.2.1, u.2.2.1, u.2.2.2.1, u.2.2.2.2.1, v, u.2.2.2.2.2.2)
abbrev T_s_y (u : TS) (v : Int32) : TS := (u.1, u.2.1, u.2.2.1, u.2.2.2.1, u.2.2.2.2.1, u.2.2.2.2.2.1, v)
abbrev wT (g : kG) (a : Nat → Nat) (b : Nat) (u : TS) : va_W := [(a 0, .inr (4, [.ref (a 1), .int (T_length u), .ref b, .int (T_part u), .int (T_digits u), .int (T_number u), .int (T_x u), .int (T_y u)])), (a 1, .inl (kI g, 70, .inl (T_codes u)))]
abbrev wR (g : kG) (a : Nat → Nat) (n : Nat) (f : Nat → Int32) : va_W := [(a 0, .inl (kI g, n, .inl f))]
theorem tb_ne {x k : Int32} (h : ¬ x = k) : x.toInt ≠ k.toInt := fun q => h (Int32.toInt_inj.mp q)
theorem tb_out6 {x : Int32} (h0 : ¬ x = 0) (h1 : ¬ x = 1) (h2 : ¬ x = 2) (h3 : ¬ x = 3) (h4 : ¬ x = 4) (h5 : ¬ x = 5) : x.toInt < 0 ∨ 5 < x.toInt := by
  have key : ∀ k : Nat, k < 6 → x.toInt = (k : Int) → False := by
    intro k hk q
    match k, hk, q with
    | 0, _, q => exact h0 (Int32.toInt_inj.mp (q.trans (by decide)))
    | 1, _, q => exact h1 (Int32.toInt_inj.mp (q.trans (by decide)))
    | 2, _, q => exact h2 (Int32.toInt_inj.mp (q.trans (by decide)))
    | 3, _, q => exact h3 (Int32.toInt_inj.mp (q.trans (by decide)))
    | 4, _, q => exact h4 (Int32.toInt_inj.mp (q.trans (by decide)))
    | 5, _, q => exact h5 (Int32.toInt_inj.mp (q.trans (by decide)))
    | k + 6, hk, _ => exact absurd hk (by omega)
  rcases Int.lt_or_le x.toInt 0 with h | h
  · exact Or.inl h
  · rcases Int.lt_or_le 5 x.toInt with h9 | h9
    · exact Or.inr h9
    · exact (key x.toInt.toNat (by omega) (by omega)).elim
theorem tb_out7 {x : Int32} (h0 : ¬ x = 0) (h1 : ¬ x = 1) (h2 : ¬ x = 2) (h3 : ¬ x = 3) (h4 : ¬ x = 4) (h5 : ¬ x = 5) (h6 : ¬ x = 6) : x.toInt < 0 ∨ 6 < x.toInt := by
  have key : ∀ k : Nat, k < 7 → x.toInt = (k : Int) → False := by
    intro k hk q
    match k, hk, q with
    | 0, _, q => exact h0 (Int32.toInt_inj.mp (q.trans (by decide)))
    | 1, _, q => exact h1 (Int32.toInt_inj.mp (q.trans (by decide)))
    | 2, _, q => exact h2 (Int32.toInt_inj.mp (q.trans (by decide)))
    | 3, _, q => exact h3 (Int32.toInt_inj.mp (q.trans (by decide)))
    | 4, _, q => exact h4 (Int32.toInt_inj.mp (q.trans (by decide)))
    | 5, _, q => exact h5 (Int32.toInt_inj.mp (q.trans (by decide)))
    | 6, _, q => exact h6 (Int32.toInt_inj.mp (q.trans (by decide)))
    | k + 7, hk, _ => exact absurd hk (by omega)
  rcases Int.lt_or_le x.toInt 0 with h | h
  · exact Or.inl h
  · rcases Int.lt_or_le 6 x.toInt with h9 | h9
    · exact Or.inr h9
    · exact (key x.toInt.toNat (by omega) (by omega)).elim
theorem tb_out10 {x : Int32} (h0 : ¬ x = 0) (h1 : ¬ x = 1) (h2 : ¬ x = 2) (h3 : ¬ x = 3) (h4 : ¬ x = 4) (h5 : ¬ x = 5) (h6 : ¬ x = 6) (h7 : ¬ x = 7) (h8 : ¬ x = 8) (h9 : ¬ x = 9) : x.toInt < 0 ∨ 9 < x.toInt := by
  have key : ∀ k : Nat, k < 10 → x.toInt = (k : Int) → False := by
    intro k hk q
    match k, hk, q with
    | 0, _, q => exact h0 (Int32.toInt_inj.mp (q.trans (by decide)))
    | 1, _, q => exact h1 (Int32.toInt_inj.mp (q.trans (by decide)))
    | 2, _, q => exact h2 (Int32.toInt_inj.mp (q.trans (by decide)))
    | 3, _, q => exact h3 (Int32.toInt_inj.mp (q.trans (by decide)))
    | 4, _, q => exact h4 (Int32.toInt_inj.mp (q.trans (by decide)))
    | 5, _, q => exact h5 (Int32.toInt_inj.mp (q.trans (by decide)))
    | 6, _, q => exact h6 (Int32.toInt_inj.mp (q.trans (by decide)))
    | 7, _, q => exact h7 (Int32.toInt_inj.mp (q.trans (by decide)))
    | 8, _, q => exact h8 (Int32.toInt_inj.mp (q.trans (by decide)))
    | 9, _, q => exact h9 (Int32.toInt_inj.mp (q.trans (by decide)))
    | k + 10, hk, _ => exact absurd hk (by omega)
  rcases Int.lt_or_le x.toInt 0 with h | h
  · exact Or.inl h
  · rcases Int.lt_or_le 9 x.toInt with h9 | h9
    · exact Or.inr h9
    · exact (key x.toInt.toNat (by omega) (by omega)).elim
theorem tb_out11 {x : Int32} (h0 : ¬ x = 0) (h1 : ¬ x = 1) (h2 : ¬ x = 2) (h3 : ¬ x = 3) (h4 : ¬ x = 4) (h5 : ¬ x = 5) (h6 : ¬ x = 6) (h7 : ¬ x = 7) (h8 : ¬ x = 8) (h9 : ¬ x = 9) (h10 : ¬ x = 10) : x.toInt < 0 ∨ 10 < x.toInt := by
  have key : ∀ k : Nat, k < 11 → x.toInt = (k : Int) → False := by
    intro k hk q
    match k, hk, q with
    | 0, _, q => exact h0 (Int32.toInt_inj.mp (q.trans (by decide)))
    | 1, _, q => exact h1 (Int32.toInt_inj.mp (q.trans (by decide)))
    | 2, _, q => exact h2 (Int32.toInt_inj.mp (q.trans (by decide)))
    | 3, _, q => exact h3 (Int32.toInt_inj.mp (q.trans (by decide)))
    | 4, _, q => exact h4 (Int32.toInt_inj.mp (q.trans (by decide)))
    | 5, _, q => exact h5 (Int32.toInt_inj.mp (q.trans (by decide)))
    | 6, _, q => exact h6 (Int32.toInt_inj.mp (q.trans (by decide)))
    | 7, _, q => exact h7 (Int32.toInt_inj.mp (q.trans (by decide)))
    | 8, _, q => exact h8 (Int32.toInt_inj.mp (q.trans (by decide)))
    | 9, _, q => exact h9 (Int32.toInt_inj.mp (q.trans (by decide)))
    | 10, _, q => exact h10 (Int32.toInt_inj.mp (q.trans (by decide)))
    | k + 11, hk, _ => exact absurd hk (by omega)
  rcases Int.lt_or_le x.toInt 0 with h | h
  · exact Or.inl h
  · rcases Int.lt_or_le 10 x.toInt with h9 | h9
    · exact Or.inr h9
    · exact (key x.toInt.toNat (by omega) (by omega)).elim
theorem tb_out25 {x : Int32} (h0 : ¬ x = 0) (h1 : ¬ x = 1) (h2 : ¬ x = 2) (h3 : ¬ x = 3) (h4 : ¬ x = 4) (h5 : ¬ x = 5) (h6 : ¬ x = 6) (h7 : ¬ x = 7) (h8 : ¬ x = 8) (h9 : ¬ x = 9) (h10 : ¬ x = 10) (h11 : ¬ x = 11) (h12 : ¬ x = 12) (h13 : ¬ x = 13) (h14 : ¬ x = 14) (h15 : ¬ x = 15) (h16 : ¬ x = 16) (h17 : ¬ x = 17) (h18 : ¬ x = 18) (h19 : ¬ x = 19) (h20 : ¬ x = 20) (h21 : ¬ x = 21) (h22 : ¬ x = 22) (h23 : ¬ x = 23) (h24 : ¬ x = 24) : x.toInt < 0 ∨ 24 < x.toInt := by
  have key : ∀ k : Nat, k < 25 → x.toInt = (k : Int) → False := by
    intro k hk q
    match k, hk, q with
    | 0, _, q => exact h0 (Int32.toInt_inj.mp (q.trans (by decide)))
    | 1, _, q => exact h1 (Int32.toInt_inj.mp (q.trans (by decide)))
    | 2, _, q => exact h2 (Int32.toInt_inj.mp (q.trans (by decide)))
    | 3, _, q => exact h3 (Int32.toInt_inj.mp (q.trans (by decide)))
    | 4, _, q => exact h4 (Int32.toInt_inj.mp (q.trans (by decide)))
    | 5, _, q => exact h5 (Int32.toInt_inj.mp (q.trans (by decide)))
    | 6, _, q => exact h6 (Int32.toInt_inj.mp (q.trans (by decide)))
    | 7, _, q => exact h7 (Int32.toInt_inj.mp (q.trans (by decide)))
    | 8, _, q => exact h8 (Int32.toInt_inj.mp (q.trans (by decide)))
    | 9, _, q => exact h9 (Int32.toInt_inj.mp (q.trans (by decide)))
    | 10, _, q => exact h10 (Int32.toInt_inj.mp (q.trans (by decide)))
    | 11, _, q => exact h11 (Int32.toInt_inj.mp (q.trans (by decide)))
    | 12, _, q => exact h12 (Int32.toInt_inj.mp (q.trans (by decide)))
    | 13, _, q => exact h13 (Int32.toInt_inj.mp (q.trans (by decide)))
    | 14, _, q => exact h14 (Int32.toInt_inj.mp (q.trans (by decide)))
    | 15, _, q => exact h15 (Int32.toInt_inj.mp (q.trans (by decide)))
    | 16, _, q => exact h16 (Int32.toInt_inj.mp (q.trans (by decide)))
    | 17, _, q => exact h17 (Int32.toInt_inj.mp (q.trans (by decide)))
    | 18, _, q => exact h18 (Int32.toInt_inj.mp (q.trans (by decide)))
    | 19, _, q => exact h19 (Int32.toInt_inj.mp (q.trans (by decide)))
    | 20, _, q => exact h20 (Int32.toInt_inj.mp (q.trans (by decide)))
    | 21, _, q => exact h21 (Int32.toInt_inj.mp (q.trans (by decide)))
    | 22, _, q => exact h22 (Int32.toInt_inj.mp (q.trans (by decide)))
    | 23, _, q => exact h23 (Int32.toInt_inj.mp (q.trans (by decide)))
    | 24, _, q => exact h24 (Int32.toInt_inj.mp (q.trans (by decide)))
    | k + 25, hk, _ => exact absurd hk (by omega)
  rcases Int.lt_or_le x.toInt 0 with h | h
  · exact Or.inl h
  · rcases Int.lt_or_le 24 x.toInt with h9 | h9
    · exact Or.inr h9
    · exact (key x.toInt.toNat (by omega) (by omega)).elim
