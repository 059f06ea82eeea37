section LG
variable {p : Program} {l : Launch} {e : Env} {s : State} {m : MethodId} {below : List Frame} {meth : Method} {c : Code} {H : Heap} {locs : List Loc} {cells slots : Nat} {Q : State → Prop}
variable {g : kG} {b L : Nat} {xs : Nat → Int32} {a : Nat → Nat} {D : Nat → Nat → Nat} {R : kAd} {u : ShS} {ts : TS} {bs : SS} {ps : PS} {hs : HS} {ns : NS} {mm : MS} {o : Nat} {f : Nat → Int64} {i : Int32} {ls : Array Slot}
set_option maxRecDepth 100000 in
set_option maxHeartbeats 4000000 in
/-- one turn of the law's loop behind the switch -/
theorem law_turn (hl9 : l.stackTraces = false) (C : CT g p s m #[.ref b] meth c RL cL_law 9 (some .boolean) wsL_law (fun q : Nat => s.heap.size ≤ q)) (hX : va_X b L xs s s.heap) (hbl : b < s.heap.size) (x : Int32) (hi : ∀ k : Int32, k = 1 ∨ k = 2 ∨ k = 3 ∨ k = 4 ∨ k = 5 → vp_in (i + k) L) (G : GR u ts hs ns mm) (X : ST g (fun q : Nat => s.heap.size ≤ q) s H locs (wOut g o f ++ (wB g D R u ts bs ps hs ns ++ wM g a mm))) (hl : lv_has ls 9 [(0, .ref b), (1, .ref (D 0 0)), (2, .ref (a 0)), (3, .ref o), (4, .int i)]) (hfit : cells + 20 ≤ 601024 ∧ slots + 420 ≤ 7293034) (kk : ∀ (H : Heap) (locs : List Loc) (ls : Array Slot) (R : kAd) (u : ShS) (ts : TS) (bs : SS) (ps : PS) (hs : HS) (ns : NS) (mm : MS) (f : Nat → Int64), GR u ts hs ns mm → ST g (fun q : Nat => s.heap.size ≤ q) s H locs (wOut g o f ++ (wB g D R u ts bs ps hs ns ++ wM g a mm)) → lv_has ls 9 [(0, .ref b), (1, .ref (D 0 0)), (2, .ref (a 0)), (3, .ref o), (4, .int i)] → W p l e room_1 s m #[Value.ref b] below meth c H locs (cells + 20) (slots + 420) Q (F0 m 1731 ls [])) : W p l e room_1 s m #[Value.ref b] below meth c H locs cells slots Q (F0 m 40 ls [.int x]) := by
  have hx := C.1
  have hb := C.2.1
  by_cases h0 : x = 0
  · subst h0
    refine lv_tableIn (off := 116) (tgt := 156) hx hb dL_law_40 (by decide) (by decide) (by decide) (by decide) ?_
    exact law_stroke hl9 C hX hbl hi G X hl hfit kk
  by_cases h1 : x = 1
  · subst h1
    refine lv_tableIn (off := 208) (tgt := 248) hx hb dL_law_40 (by decide) (by decide) (by decide) (by decide) ?_
    exact law_draw hl9 C hX hbl hi G X hl hfit kk
  by_cases h2 : x = 2
  · subst h2
    refine lv_tableIn (off := 252) (tgt := 292) hx hb dL_law_40 (by decide) (by decide) (by decide) (by decide) ?_
    exact law_insert hl9 C hX hbl hi G X hl hfit kk
  by_cases h3 : x = 3
  · subst h3
    refine lv_tableIn (off := 356) (tgt := 396) hx hb dL_law_40 (by decide) (by decide) (by decide) (by decide) ?_
    exact law_change hl9 C hX hbl hi G X hl hfit kk
  by_cases h4 : x = 4
  · subst h4
    refine lv_tableIn (off := 460) (tgt := 500) hx hb dL_law_40 (by decide) (by decide) (by decide) (by decide) ?_
    exact law_remove hl9 C hX hbl hi G X hl hfit kk
  by_cases h5 : x = 5
  · subst h5
    refine lv_tableIn (off := 528) (tgt := 568) hx hb dL_law_40 (by decide) (by decide) (by decide) (by decide) ?_
    exact law_erase hl9 C hX hbl hi G X hl hfit kk
  by_cases h6 : x = 6
  · subst h6
    refine lv_tableIn (off := 584) (tgt := 624) hx hb dL_law_40 (by decide) (by decide) (by decide) (by decide) ?_
    exact law_simplify hl9 C hX hbl hi G X hl hfit kk
  by_cases h7 : x = 7
  · subst h7
    refine lv_tableIn (off := 652) (tgt := 692) hx hb dL_law_40 (by decide) (by decide) (by decide) (by decide) ?_
    exact law_bake hl9 C hX hbl hi G X hl hfit kk
  by_cases h8 : x = 8
  · subst h8
    refine lv_tableIn (off := 708) (tgt := 748) hx hb dL_law_40 (by decide) (by decide) (by decide) (by decide) ?_
    exact law_set hl9 C hX hbl hi G X hl hfit kk
  by_cases h9 : x = 9
  · subst h9
    refine lv_tableIn (off := 776) (tgt := 816) hx hb dL_law_40 (by decide) (by decide) (by decide) (by decide) ?_
    exact law_append hl9 C hX hbl hi G X hl hfit kk
  by_cases h10 : x = 10
  · subst h10
    refine lv_tableIn (off := 832) (tgt := 872) hx hb dL_law_40 (by decide) (by decide) (by decide) (by decide) ?_
    exact law_clearBuffer hl9 C hX hbl hi G X hl hfit kk
  by_cases h11 : x = 11
  · subst h11
    refine lv_tableIn (off := 845) (tgt := 885) hx hb dL_law_40 (by decide) (by decide) (by decide) (by decide) ?_
    exact law_firstError hl9 C hX hbl hi G X hl hfit kk
  by_cases h12 : x = 12
  · subst h12
    refine lv_tableIn (off := 858) (tgt := 898) hx hb dL_law_40 (by decide) (by decide) (by decide) (by decide) ?_
    exact law_undo hl9 C hX hbl hi G X hl hfit kk
  by_cases h13 : x = 13
  · subst h13
    refine lv_tableIn (off := 902) (tgt := 942) hx hb dL_law_40 (by decide) (by decide) (by decide) (by decide) ?_
    exact law_keep hl9 C hX hbl hi G X hl hfit kk
  by_cases h14 : x = 14
  · subst h14
    refine lv_tableIn (off := 958) (tgt := 998) hx hb dL_law_40 (by decide) (by decide) (by decide) (by decide) ?_
    exact law_goBack hl9 C hX hbl hi G X hl hfit kk
  by_cases h15 : x = 15
  · subst h15
    refine lv_tableIn (off := 1014) (tgt := 1054) hx hb dL_law_40 (by decide) (by decide) (by decide) (by decide) ?_
    exact law_point hl9 C hX hbl hi G X hl hfit kk
  by_cases h16 : x = 16
  · subst h16
    refine lv_tableIn (off := 1094) (tgt := 1134) hx hb dL_law_40 (by decide) (by decide) (by decide) (by decide) ?_
    exact law_strokeOf hl9 C hX hbl hi G X hl hfit kk
  by_cases h17 : x = 17
  · subst h17
    refine lv_tableIn (off := 1162) (tgt := 1202) hx hb dL_law_40 (by decide) (by decide) (by decide) (by decide) ?_
    exact law_distance hl9 C hX hbl hi G X hl hfit kk
  by_cases h18 : x = 18
  · subst h18
    refine lv_tableIn (off := 1254) (tgt := 1294) hx hb dL_law_40 (by decide) (by decide) (by decide) (by decide) ?_
    exact law_crossings hl9 C hX hbl hi G X hl hfit kk
  by_cases h19 : x = 19
  · subst h19
    refine lv_tableIn (off := 1310) (tgt := 1350) hx hb dL_law_40 (by decide) (by decide) (by decide) (by decide) ?_
    exact law_count hl9 C hX hbl hi G X hl hfit kk
  by_cases h20 : x = 20
  · subst h20
    refine lv_tableIn (off := 1366) (tgt := 1406) hx hb dL_law_40 (by decide) (by decide) (by decide) (by decide) ?_
    exact law_setting hl9 C hX hbl hi G X hl hfit kk
  by_cases h21 : x = 21
  · subst h21
    refine lv_tableIn (off := 1422) (tgt := 1462) hx hb dL_law_40 (by decide) (by decide) (by decide) (by decide) ?_
    exact law_nearest hl9 C hX hbl hi G X hl hfit kk
  by_cases h22 : x = 22
  · subst h22
    refine lv_tableIn (off := 1490) (tgt := 1530) hx hb dL_law_40 (by decide) (by decide) (by decide) (by decide) ?_
    exact law_ifSimplified hl9 C hX hbl hi G X hl hfit kk
  by_cases h23 : x = 23
  · subst h23
    refine lv_tableIn (off := 1570) (tgt := 1610) hx hb dL_law_40 (by decide) (by decide) (by decide) (by decide) ?_
    exact law_leastBound hl9 C hX hbl hi G X hl hfit kk
  by_cases h24 : x = 24
  · subst h24
    refine lv_tableIn (off := 1650) (tgt := 1690) hx hb dL_law_40 (by decide) (by decide) (by decide) (by decide) ?_
    exact law_share hl9 C hX hbl hi G X hl hfit kk
  refine lv_tableOut (tgt := 1731) hx hb dL_law_40 (tb_out25 h0 h1 h2 h3 h4 h5 h6 h7 h8 h9 h10 h11 h12 h13 h14 h15 h16 h17 h18 h19 h20 h21 h22 h23 h24) (by decide) ?_
  refine W.widen (k := cells + 20) (n := slots + 420) (by omega) (by omega) ?_
  exact kk _ _ _ R u ts bs ps hs ns mm f G X hl
theorem lg_val (n : Nat) (h : n < 2 ^ 31) : (Int32.ofNat n).toInt = n := Int32.toInt_ofNat_of_lt h
theorem lg_gt {j L : Nat} (hj : 6 * j < 4000) (hL : L ≤ 3072) : (Int32.ofNat L - 6 < Int32.ofNat (6 * j)) ↔ L < 6 * j + 6 := by
  have e1 : (Int32.ofNat L).toInt = L := lg_val L (by omega)
  have e2 : (Int32.ofNat (6 * j)).toInt = (6 * j : Nat) := lg_val _ (by omega)
  have e3 : (Int32.ofNat L - 6).toInt = (L : Int) - 6 := by
    rw [Int32.toInt_sub, e1]
    have : (6 : Int32).toInt = 6 := by decide
    rw [this, Int.bmod_eq_of_le (by omega) (by omega)]
  rw [Int32.lt_iff_toInt_lt, e3, e2]
  omega
theorem lg_in {j L k : Nat} (hL : L ≤ 3072) (h : 6 * j + 6 ≤ L) (hk : k < 6) : vp_in (Int32.ofNat (6 * j) + Int32.ofNat k) L := by
  have e2 : (Int32.ofNat (6 * j)).toInt = (6 * j : Nat) := lg_val _ (by omega)
  have e3 : (Int32.ofNat k).toInt = (k : Nat) := lg_val _ (by omega)
  have e4 : (Int32.ofNat (6 * j) + Int32.ofNat k).toInt = ((6 * j + k : Nat) : Int) := by
    rw [Int32.toInt_add, e2, e3, Int.bmod_eq_of_le (by omega) (by omega)]
    omega
  have e5 : (Int32.ofNat (6 * j) + Int32.ofNat k).toNatClampNeg = 6 * j + k := by
    show (Int32.ofNat (6 * j) + Int32.ofNat k).toInt.toNat = _
    rw [e4]
    rfl
  rintro (q | q)
  · rw [Int32.lt_iff_toInt_lt, e4] at q
    have : (0 : Int32).toInt = 0 := by decide
    omega
  · rw [e5] at q
    omega
theorem lg_next (j : Nat) : Int32.ofNat (6 * j) + Int32.ofInt 6 = Int32.ofNat (6 * (j + 1)) := by
  have : Int32.ofInt 6 = Int32.ofNat 6 := by decide
  rw [this, ← Int32.ofNat_add]
  rfl
set_option maxRecDepth 100000 in
set_option maxHeartbeats 4000000 in
/-- the law's loop -/
theorem law_loop (hl9 : l.stackTraces = false) (C : CT g p s m #[.ref b] meth c RL cL_law 9 (some .boolean) wsL_law (fun q : Nat => s.heap.size ≤ q)) (hX : va_X b L xs s s.heap) (hbl : b < s.heap.size) (hL : L ≤ 3072) (kk : ∀ (H : Heap) (locs : List Loc) (ls : Array Slot), (∀ q ∈ locs, s.heap.size ≤ q.base) → W p l e room_1 s m #[Value.ref b] below meth c H locs 601024 7293034 Q (F0 m 1737 ls [])) :
    ∀ (n j : Nat), 6 * j ≤ L → L < 6 * j + 6 * n + 6 → ∀ (cells slots : Nat), cells + 20 * n ≤ 601024 ∧ slots + 420 * n ≤ 7293034 → ∀ (H : Heap) (locs : List Loc) (ls : Array Slot) (R : kAd) (u : ShS) (ts : TS) (bs : SS) (ps : PS) (hs : HS) (ns : NS) (mm : MS) (f : Nat → Int64), GR u ts hs ns mm → ST g (fun q : Nat => s.heap.size ≤ q) s H locs (wOut g o f ++ (wB g D R u ts bs ps hs ns ++ wM g a mm)) → lv_has ls 9 [(0, .ref b), (1, .ref (D 0 0)), (2, .ref (a 0)), (3, .ref o), (4, .int (Int32.ofNat (6 * j)))] → W p l e room_1 s m #[Value.ref b] below meth c H locs cells slots Q (F0 m 23 ls []) := by
  intro n
  have hx := C.1
  have hb := C.2.1
  have hbA : ¬ (fun q : Nat => s.heap.size ≤ q) b := Nat.not_le.mpr hbl
  induction n with
  | zero =>
    intro j hj hjn cells slots hfit H locs ls R u ts bs ps hs ns mm f G X hl
    refine lv_iload hx hb dL_law_23 (lv_at hl 4 rfl) ?_
    refine lv_aload_n hx hb dL_law_25 rfl (lv_at hl 0 rfl) ?_
    refine va_slen hx hb hX hbl hbA X.2.2 dL_law_26 ?_
    refine lv_bipush (v := 6) hx hb dL_law_27 (by decide) ?_
    refine lv_isub hx hb dL_law_29 ?_
    refine lv_icmp_gt (tgt := 1737) hx hb dL_law_30 (by decide) (fun hc => ?_) (fun hc => ?_)
    · exact W.widen (k := 601024) (n := 7293034) (by omega) (by omega) (kk H locs ls (fun q hq => X.2.2.2.2 q hq))
    · rw [lg_gt (by omega) hL] at hc
      omega
  | succ n ih =>
    intro j hj hjn cells slots hfit H locs ls R u ts bs ps hs ns mm f G X hl
    refine lv_iload hx hb dL_law_23 (lv_at hl 4 rfl) ?_
    refine lv_aload_n hx hb dL_law_25 rfl (lv_at hl 0 rfl) ?_
    refine va_slen hx hb hX hbl hbA X.2.2 dL_law_26 ?_
    refine lv_bipush (v := 6) hx hb dL_law_27 (by decide) ?_
    refine lv_isub hx hb dL_law_29 ?_
    refine lv_icmp_gt (tgt := 1737) hx hb dL_law_30 (by decide) (fun hc => ?_) (fun hc => ?_)
    · exact W.widen (k := 601024) (n := 7293034) (by omega) (by omega) (kk H locs ls (fun q hq => X.2.2.2.2 q hq))
    · rw [lg_gt (by omega) hL] at hc
      have hin : ∀ k : Nat, k < 6 → vp_in (Int32.ofNat (6 * j) + Int32.ofNat k) L := fun k hk => lg_in hL (by omega) hk
      have hi : ∀ k : Int32, k = 1 ∨ k = 2 ∨ k = 3 ∨ k = 4 ∨ k = 5 → vp_in (Int32.ofNat (6 * j) + k) L := by
        intro k hk
        rcases hk with rfl | rfl | rfl | rfl | rfl
        · exact hin 1 (by omega)
        · exact hin 2 (by omega)
        · exact hin 3 (by omega)
        · exact hin 4 (by omega)
        · exact hin 5 (by omega)
      have h0 : vp_in (Int32.ofNat (6 * j)) L := by
        have := hin 0 (by omega)
        rw [← Int32.ofNat_add] at this
        exact this
      refine lv_aload_n hx hb dL_law_33 rfl (lv_at hl 0 rfl) ?_
      refine lv_iload hx hb dL_law_34 (lv_at hl 4 rfl) ?_
      refine va_sld hx hb hX hbl hbA X.2.2 h0 dL_law_36 ?_
      refine lv_bipush (v := 31) hx hb dL_law_37 (by decide) ?_
      refine lv_iand hx hb dL_law_39 ?_
      refine law_turn hl9 C hX hbl _ hi G X hl ⟨by omega, by omega⟩ (fun H locs ls R u ts bs ps hs ns mm f G X hl => ?_)
      refine lv_iinc (k := 4) (lv' := [(4, .int (Int32.ofNat (6 * (j + 1)))), (0, .ref b), (1, .ref (D 0 0)), (2, .ref (a 0)), (3, .ref o)]) hx hb dL_law_1731 hl rfl (lg_next j) (by decide) rfl (fun ls hl => ?_)
      refine lv_goto (tgt := 23) hx hb dL_law_1734 (by decide) ?_
      exact ih (j + 1) (by omega) (by omega) (cells + 20) (slots + 420) ⟨by omega, by omega⟩ H locs ls R u ts bs ps hs ns mm f G X (lv_sub hl [1, 2, 3, 4, 0] rfl)
end LG
