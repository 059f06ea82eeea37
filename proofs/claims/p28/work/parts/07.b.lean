-- X2 BrushStrokes$Simplifier.isWithin(IJJ)Z
abbrev rX2_isWithin : Room := { frames := 0, cells := 0, slots := 0, locals := 0 }
noncomputable def fX2_isWithin (p1 : Int32) (p2 : Int64) (p3 : Int64) : Option (Int32) := ((if ((p1.toInt64 * p1.toInt64) * p3) < p2 then (some 0) else (some 1)) : Option (Int32)).bind fun v1 => gd (isb v1) (some v1)
set_option maxRecDepth 100000 in
set_option maxHeartbeats 4000000 in
theorem kX2_isWithin (l : Launch) (g : kG) (p1 : Int32) (p2 : Int64) (p3 : Int64) (o1 : Int32) (hm : fX2_isWithin p1 p2 p3 = some o1) : KM l yX2_isWithin wsX2_isWithin rX2_isWithin g [.int p1, .long p2, .long p3] ([]) (some (.int o1)) ([]) 0 0 := by
  refine KM.of (nL := 5) (by decide) rfl (Nat.le_of_ble_eq_true rfl) ?_
  intro p e s m args below meth c A ls C X hl
  have C : CT g p s m args meth c RX2 cX2_isWithin 5 (some .boolean) wsX2_isWithin A := C
  have hx := C.1
  have hb := C.2.1
  have hl : lv_has ls 5 [(0, .int p1), (1, .long p2), (3, .long p3)] := hl
  rw [fX2_isWithin] at hm
  refine lv_lload_n hx hb dX2_isWithin_0 rfl (lv_at hl 1 rfl) ?_
  refine lv_iload_n hx hb dX2_isWithin_1 rfl (lv_at hl 0 rfl) ?_
  refine lv_i2l (v := p1.toInt64) hx hb dX2_isWithin_2 rfl ?_
  refine lv_iload_n hx hb dX2_isWithin_3 rfl (lv_at hl 0 rfl) ?_
  refine lv_i2l (v := p1.toInt64) hx hb dX2_isWithin_4 rfl ?_
  refine lv_lmul hx hb dX2_isWithin_5 ?_
  refine lv_lload_n hx hb dX2_isWithin_6 rfl (lv_at hl 2 rfl) ?_
  refine lv_lmul hx hb dX2_isWithin_7 ?_
  obtain ⟨v1, hE, hm⟩ := bnd hm
  have K : ∀ (H : Heap) (locs : List Loc) (ls : Array Slot), ST g A s H locs ([]) → lv_has ls 5 [] → W p l e rX2_isWithin s m args below meth c H locs 0 0 (kEnd g below args s (some (.int o1)) ([]) A 0 0) (F0 m 17 ls [.int v1]) := by
    intro H locs ls X hl
    clear hE
    obtain ⟨hgb, hm⟩ := gd_t hm
    cases sm hm
    exact kzret (isb_n hgb) C X dX2_isWithin_17
  clear hm
  have hm := hE
  clear hE
  refine klcmp_gt (tgt := 16) hx hb dX2_isWithin_8 dX2_isWithin_9 (by decide) (fun hc => ?_) (fun hc => ?_)
  · have hm := ifp hc hm
    refine lv_iconst (v := 0) hx hb dX2_isWithin_16 (by decide) ?_
    cases sm hm
    exact K _ _ _ X (lv_sub hl [] rfl)
  · have hm := ifn hc hm
    refine lv_iconst (v := 1) hx hb dX2_isWithin_12 (by decide) ?_
    refine lv_goto (tgt := 17) hx hb dX2_isWithin_13 (by decide) ?_
    cases sm hm
    exact K _ _ _ X (lv_sub hl [] rfl)
-- X2 BrushStrokes$Simplifier.nextOf(III)I
abbrev rX2_nextOf : Room := { frames := 1, cells := 0, slots := 0, locals := 21 }
theorem cw_X2_nextOf_X5_hasBit_64 {p : Program} {s : State} {m : MethodId} {args : Array Value} {meth : Method} {c : Code} {g : kG} {A : Nat → Prop} (C : CT g p s m args meth c RX2 cX2_nextOf 5 (some .int) wsX2_nextOf A) : va_CN rX2_nextOf s args RX2 64 yX5_hasBit RX5 cX5_hasBit 2 (some .boolean) wsX5_hasBit rX5_hasBit 0 0 2 ∧ (Cond.static yX5_hasBit).before args s = true ∧ True := ⟨va_cnB 2 C.2.2.2.2.2.1 gX2_nextOf_X5_hasBit_n64 rfl rfl rfl (C.2.2.2.2.2.2.2.1.2.1.1 (RX2, 64, yX5_hasBit, RX5) (by decide +kernel)) (C.2.2.2.2.2.1 (.initialized RX5) (by decide +kernel)) (by decide +kernel) ⟨Nat.le_of_ble_eq_true rfl, Nat.le_of_ble_eq_true rfl⟩, C.2.2.2.2.2.1 (.static yX5_hasBit) (by decide +kernel), trivial⟩
noncomputable def bX2_nextOf_5 (c1 : Int32) (c2 : Int32) (x3 : Int32) : Option ((Int32) ⊕ (Int32)) := if c2 ≤ x3 then (some (.inr c2)) else ((fX5_hasBit c1 x3).bind fun r5 => if r5 = 0 then (some (.inl (x3 + 1))) else (some (.inr x3)))
noncomputable def lX2_nextOf_5 (c1 : Int32) (c2 : Int32) (x3 : Int32) : Option (Int32) := lp (bX2_nextOf_5 c1 c2) x3
theorem lX2_nextOf_5_eq (c1 : Int32) (c2 : Int32) (x3 : Int32) : lX2_nextOf_5 c1 c2 x3 = (if c2 ≤ x3 then (some (.inr c2)) else ((fX5_hasBit c1 x3).bind fun r5 => if r5 = 0 then (some (.inl (x3 + 1))) else (some (.inr x3)))).bind fun r => Sum.elim (fun z => lX2_nextOf_5 c1 c2 z) (fun r => some r) r := lp_eq (bX2_nextOf_5 c1 c2) x3
set_option maxRecDepth 100000 in
set_option maxHeartbeats 4000000 in
theorem tX2_nextOf_5 {p : Program} {l : Launch} {e : Env} {s : State} {m : MethodId} {args : Array Value} {below : List Frame} {meth : Method} {c : Code} {g : kG} {A : Nat → Prop} (a : Nat → Nat) (C : CT g p s m args meth c RX2 cX2_nextOf 5 (some .int) wsX2_nextOf A) (c1 : Int32) (c2 : Int32) (w4 : PS) (o1 : Int32) : ∀ (n : Nat) (x3 : Int32), whl (bX2_nextOf_5 c1 c2) n x3 = some o1 → ∀ (H : Heap) (locs : List Loc) (ls : Array Slot), ST g A s H locs (wP g a w4) → lv_has ls 5 [(1, .int c1), (3, .int c2), (4, .int x3)] → W p l e rX2_nextOf s m args below meth c H locs 0 0 (kEnd g below args s (some (.int o1)) (wP g a w4) A 0 0) (F0 m 5 ls []) := by
  have hx := C.1
  have hb := C.2.1
  intro n
  induction n with
  | zero =>
    intro x3 hm
    cases hm
  | succ n ih =>
    intro x3 hm H locs ls X hl
    rw [whl] at hm
    obtain ⟨q, hq, hm2⟩ := bnd hm
    clear hm
    have hm := hq
    clear hq
    rw [bX2_nextOf_5] at hm
    refine lv_iload hx hb dX2_nextOf_5 (lv_at hl 2 rfl) ?_
    refine lv_iload_n hx hb dX2_nextOf_7 rfl (lv_at hl 1 rfl) ?_
    refine lv_icmp_ge (tgt := 29) hx hb dX2_nextOf_8 (by decide) (fun hc => ?_) (fun hc => ?_)
    · have hm := ifp hc hm
      refine lv_iload_n hx hb dX2_nextOf_29 rfl (lv_at hl 1 rfl) ?_
      cases sm hm
      cases sm hm2
      exact kiret C X dX2_nextOf_30
    · have hm := ifn hc hm
      refine lv_iload_n hx hb dX2_nextOf_11 rfl (lv_at hl 0 rfl) ?_
      refine lv_iload hx hb dX2_nextOf_12 (lv_at hl 2 rfl) ?_
      obtain ⟨r5, hcl, hm⟩ := bnd hm
      refine kN0 C X (kX5_hasBit l g c1 x3 r5 hcl) (cw_X2_nextOf_X5_hasBit_64 C) (As := [.int c1, .int x3]) rfl hl (rest := []) rfl (Nat.le_of_ble_eq_true rfl) (st2 := [.int r5]) rfl dX2_nextOf_14 ⟨Nat.le_of_ble_eq_true rfl, Nat.le_of_ble_eq_true rfl⟩ (fun H locs X => ?_)
      clear hcl
      refine lv_if_eq (tgt := 23) hx hb dX2_nextOf_17 (by decide) (fun hc => ?_) (fun hc => ?_)
      · have hm := ifp hc hm
        refine lv_iinc (v := x3 + 1) (lv' := [(4, .int (x3 + 1)), (1, .int c1), (3, .int c2)]) hx hb dX2_nextOf_23 hl (k := 2) rfl rfl (by decide) rfl (fun ls hl => ?_)
        refine lv_goto (tgt := 5) hx hb dX2_nextOf_26 (by decide) ?_
        cases sm hm
        exact ih _ hm2 _ _ _ X (lv_sub hl [1, 2, 0] rfl)
      · have hm := ifn hc hm
        refine lv_iload hx hb dX2_nextOf_20 (lv_at hl 2 rfl) ?_
        cases sm hm
        cases sm hm2
        exact kiret C X dX2_nextOf_22
noncomputable def fX2_nextOf (p1 : Int32) (p2 : Int32) (p3 : Int32) (u : PS) : Option (Int32) := lX2_nextOf_5 p1 p3 (p2 + 1)
set_option maxRecDepth 100000 in
set_option maxHeartbeats 4000000 in
theorem kX2_nextOf (l : Launch) (g : kG) (a : Nat → Nat) (p1 : Int32) (p2 : Int32) (p3 : Int32) (u : PS) (o1 : Int32) (hm : fX2_nextOf p1 p2 p3 u = some o1) : KM l yX2_nextOf wsX2_nextOf rX2_nextOf g [.ref (a 0), .int p1, .int p2, .int p3] (wP g a u) (some (.int o1)) (wP g a u) 0 0 := by
  refine KM.of (nL := 5) (by decide) rfl (Nat.le_of_ble_eq_true rfl) ?_
  intro p e s m args below meth c A ls C X hl
  have C : CT g p s m args meth c RX2 cX2_nextOf 5 (some .int) wsX2_nextOf A := C
  have hx := C.1
  have hb := C.2.1
  have hl : lv_has ls 5 [(0, .ref (a 0)), (1, .int p1), (2, .int p2), (3, .int p3)] := hl
  rw [fX2_nextOf] at hm
  refine lv_iload_n hx hb dX2_nextOf_0 rfl (lv_at hl 2 rfl) ?_
  refine lv_iconst (v := 1) hx hb dX2_nextOf_1 (by decide) ?_
  refine lv_iadd hx hb dX2_nextOf_2 ?_
  refine lv_istore (lv' := [(4, .int (p2 + 1)), (0, .ref (a 0)), (1, .int p1), (2, .int p2), (3, .int p3)]) hx hb dX2_nextOf_3 hl (by decide) rfl (fun ls hl => ?_)
  obtain ⟨nn, hn⟩ := lp_run hm
  exact tX2_nextOf_5 a C p1 p3 u _ nn _ hn _ _ _ X (lv_sub hl [2, 4, 0] rfl)
-- X2 BrushStrokes$Simplifier.leastWithin(LBrushStrokes$Stroke;II)I
abbrev rX2_leastWithin : Room := { frames := 3, cells := 0, slots := 0, locals := 86 }
theorem cw_X2_leastWithin_X3_scale_56 {p : Program} {s : State} {m : MethodId} {args : Array Value} {meth : Method} {c : Code} {g : kG} {A : Nat → Prop} (C : CT g p s m args meth c RX2 cX2_leastWithin 9 (some .int) wsX2_leastWithin A) : CallW rX2_leastWithin s args RX2 RX3 56 yX3_scale cX3_scale 3 (some .long) wsX3_scale rX3_scale 0 0 2 := cwV 2 C.2.2.2.2.2.1 gX2_leastWithin_X3_scale rfl rfl rfl (by decide +kernel) ⟨Nat.le_of_ble_eq_true rfl, Nat.le_of_ble_eq_true rfl⟩
theorem cw_X2_leastWithin_X2_isWithin_60 {p : Program} {s : State} {m : MethodId} {args : Array Value} {meth : Method} {c : Code} {g : kG} {A : Nat → Prop} (C : CT g p s m args meth c RX2 cX2_leastWithin 9 (some .int) wsX2_leastWithin A) : CallB rX2_leastWithin s args RX2 60 yX2_isWithin cX2_isWithin 5 (some .boolean) wsX2_isWithin rX2_isWithin 0 0 3 ∧ (Cond.static yX2_isWithin).before args s = true := cwS 3 C.2.2.2.2.2.1 gX2_leastWithin_X2_isWithin rfl rfl rfl (by decide +kernel) ⟨Nat.le_of_ble_eq_true rfl, Nat.le_of_ble_eq_true rfl⟩
theorem cw_X2_leastWithin_X3_farthestBetween_49 {p : Program} {s : State} {m : MethodId} {args : Array Value} {meth : Method} {c : Code} {g : kG} {A : Nat → Prop} (C : CT g p s m args meth c RX2 cX2_leastWithin 9 (some .int) wsX2_leastWithin A) : CallW rX2_leastWithin s args RX2 RX3 49 yX3_farthestBetween cX3_farthestBetween 9 (some .int) wsX3_farthestBetween rX3_farthestBetween 0 0 2 := cwV 2 C.2.2.2.2.2.1 gX2_leastWithin_X3_farthestBetween rfl rfl rfl (by decide +kernel) ⟨Nat.le_of_ble_eq_true rfl, Nat.le_of_ble_eq_true rfl⟩
theorem cw_X2_leastWithin_X3_spread_52 {p : Program} {s : State} {m : MethodId} {args : Array Value} {meth : Method} {c : Code} {g : kG} {A : Nat → Prop} (C : CT g p s m args meth c RX2 cX2_leastWithin 9 (some .int) wsX2_leastWithin A) : CallW rX2_leastWithin s args RX2 RX3 52 yX3_spread cX3_spread 16 (some .long) wsX3_spread rX3_spread 0 0 3 := cwV 3 C.2.2.2.2.2.1 gX2_leastWithin_X3_spread rfl rfl rfl (by decide +kernel) ⟨Nat.le_of_ble_eq_true rfl, Nat.le_of_ble_eq_true rfl⟩
noncomputable def bX2_leastWithin_25 (c4 : Int64) (c5 : Int64) (x6 : Int32) : Option ((Int32) ⊕ (Int32)) := if 50 < x6 then (some (.inr x6)) else ((fX2_isWithin x6 c4 c5).bind fun r10 => if r10 = 0 then (some (.inl (x6 + 1))) else (some (.inr x6)))
noncomputable def lX2_leastWithin_25 (c4 : Int64) (c5 : Int64) (x6 : Int32) : Option (Int32) := lp (bX2_leastWithin_25 c4 c5) x6
theorem lX2_leastWithin_25_eq (c4 : Int64) (c5 : Int64) (x6 : Int32) : lX2_leastWithin_25 c4 c5 x6 = (if 50 < x6 then (some (.inr x6)) else ((fX2_isWithin x6 c4 c5).bind fun r10 => if r10 = 0 then (some (.inl (x6 + 1))) else (some (.inr x6)))).bind fun r => Sum.elim (fun z => lX2_leastWithin_25 c4 c5 z) (fun r => some r) r := lp_eq (bX2_leastWithin_25 c4 c5) x6
set_option maxRecDepth 100000 in
set_option maxHeartbeats 4000000 in
theorem tX2_leastWithin_25 {p : Program} {l : Launch} {e : Env} {s : State} {m : MethodId} {args : Array Value} {below : List Frame} {meth : Method} {c : Code} {g : kG} {A : Nat → Prop} {Q : State → Prop} (a : Nat → Nat) (b : Nat → Nat) (C : CT g p s m args meth c RX2 cX2_leastWithin 9 (some .int) wsX2_leastWithin A) (c4 : Int64) (c5 : Int64) (w7 : PS) (w8 : SS) (y9 : Int32) (kk : ∀ (H : Heap) (locs : List Loc) (ls : Array Slot), ST g A s H locs (wP g a w7 ++ wS g b w8) → lv_has ls 9 [(8, .int y9)] → W p l e rX2_leastWithin s m args below meth c H locs 0 0 Q (F0 m 50 ls [])) : ∀ (n : Nat) (x6 : Int32), whl (bX2_leastWithin_25 c4 c5) n x6 = some y9 → ∀ (H : Heap) (locs : List Loc) (ls : Array Slot), ST g A s H locs (wP g a w7 ++ wS g b w8) → lv_has ls 9 [(4, .long c4), (6, .long c5), (8, .int x6)] → W p l e rX2_leastWithin s m args below meth c H locs 0 0 Q (F0 m 25 ls []) := by
  have hx := C.1
  have hb := C.2.1
  intro n
  induction n with
  | zero =>
    intro x6 hm
    cases hm
  | succ n ih =>
    intro x6 hm H locs ls X hl
    rw [whl] at hm
    obtain ⟨q, hq, hm2⟩ := bnd hm
    clear hm
    have hm := hq
    clear hq
    rw [bX2_leastWithin_25] at hm
    refine lv_iload hx hb dX2_leastWithin_25 (lv_at hl 2 rfl) ?_
    refine lv_bipush (v := 50) hx hb dX2_leastWithin_27 (by decide) ?_
    refine lv_icmp_gt (tgt := 50) hx hb dX2_leastWithin_29 (by decide) (fun hc => ?_) (fun hc => ?_)
    · have hm := ifp hc hm
      cases sm hm
      cases sm hm2
      exact kk _ _ _ X (lv_sub hl [2] rfl)
    · have hm := ifn hc hm
      refine lv_iload hx hb dX2_leastWithin_32 (lv_at hl 2 rfl) ?_
      refine lv_lload hx hb dX2_leastWithin_34 (lv_at hl 0 rfl) ?_
      refine lv_lload hx hb dX2_leastWithin_36 (lv_at hl 1 rfl) ?_
      obtain ⟨r10, hcl, hm⟩ := bnd hm
      refine kS0 C X (kX2_isWithin l g x6 c4 c5 r10 hcl) (cw_X2_leastWithin_X2_isWithin_60 C) (As := [.int x6, .long c4, .long c5]) rfl hl (rest := []) rfl (Nat.le_of_ble_eq_true rfl) (st2 := [.int r10]) rfl dX2_leastWithin_38 ⟨Nat.le_of_ble_eq_true rfl, Nat.le_of_ble_eq_true rfl⟩ (fun H locs X => ?_)
      clear hcl
      refine lv_if_ne (tgt := 50) hx hb dX2_leastWithin_41 (by decide) (fun hc => ?_) (fun hc => ?_)
      · have hm := ifn hc hm
        cases sm hm
        cases sm hm2
        exact kk _ _ _ X (lv_sub hl [2] rfl)
      · have hm := ifp hc hm
        refine lv_iinc (v := x6 + 1) (lv' := [(8, .int (x6 + 1)), (4, .long c4), (6, .long c5)]) hx hb dX2_leastWithin_44 hl (k := 2) rfl rfl (by decide) rfl (fun ls hl => ?_)
        refine lv_goto (tgt := 25) hx hb dX2_leastWithin_47 (by decide) ?_
        cases sm hm
        exact ih _ hm2 _ _ _ X (lv_sub hl [1, 2, 0] rfl)
noncomputable def fX2_leastWithin (p1 : Int32) (p2 : Int32) (u : PS) (w : SS) : Option (Int32) := (fX3_farthestBetween p1 p2 w).bind fun r1 => (fX3_spread r1 p1 p2 w).bind fun r2 => (fX3_scale p1 p2 w).bind fun r3 => (lX2_leastWithin_25 r2 r3 0).bind fun y11 => some y11
set_option maxRecDepth 100000 in
set_option maxHeartbeats 4000000 in
theorem kX2_leastWithin (l : Launch) (g : kG) (a : Nat → Nat) (b : Nat → Nat) (p1 : Int32) (p2 : Int32) (u : PS) (w : SS) (o1 : Int32) (hm : fX2_leastWithin p1 p2 u w = some o1) : KM l yX2_leastWithin wsX2_leastWithin rX2_leastWithin g [.ref (a 0), .ref (b 0), .int p1, .int p2] (wP g a u ++ wS g b w) (some (.int o1)) (wP g a u ++ wS g b w) 0 0 := by
  refine KM.of (nL := 9) (by decide) rfl (Nat.le_of_ble_eq_true rfl) ?_
  intro p e s m args below meth c A ls C X hl
  have C : CT g p s m args meth c RX2 cX2_leastWithin 9 (some .int) wsX2_leastWithin A := C
  have hx := C.1
  have hb := C.2.1
  have hl : lv_has ls 9 [(0, .ref (a 0)), (1, .ref (b 0)), (2, .int p1), (3, .int p2)] := hl
  rw [fX2_leastWithin] at hm
  refine lv_aload_n hx hb dX2_leastWithin_0 rfl (lv_at hl 1 rfl) ?_
  refine lv_aload_n hx hb dX2_leastWithin_1 rfl (lv_at hl 1 rfl) ?_
  refine lv_iload_n hx hb dX2_leastWithin_2 rfl (lv_at hl 2 rfl) ?_
  refine lv_iload_n hx hb dX2_leastWithin_3 rfl (lv_at hl 3 rfl) ?_
  obtain ⟨r1, hcl, hm⟩ := bnd hm
  refine kVF [4, 5] [0, 1, 2, 3] C X (kX3_farthestBetween l g b p1 p2 w r1 hcl) (cw_X2_leastWithin_X3_farthestBetween_49 C) 4 (ci := 3) rfl rfl rfl (by decide) rfl (by decide) (by decide) (As := [.int p1, .int p2]) rfl hl (rest := [.ref (b 0)]) rfl (Nat.le_of_ble_eq_true rfl) (st2 := [.int r1, .ref (b 0)]) rfl dX2_leastWithin_4 ⟨Nat.le_of_ble_eq_true rfl, Nat.le_of_ble_eq_true rfl⟩ [0, 1, 2, 3, 4, 5] (by decide) (w3 := wP g a u ++ wS g b w) rfl (fun H locs X => ?_)
  clear hcl
  refine lv_iload_n hx hb dX2_leastWithin_7 rfl (lv_at hl 2 rfl) ?_
  refine lv_iload_n hx hb dX2_leastWithin_8 rfl (lv_at hl 3 rfl) ?_
  obtain ⟨r2, hcl, hm⟩ := bnd hm
  refine kVF [4, 5] [0, 1, 2, 3] C X (kX3_spread l g b r1 p1 p2 w r2 hcl) (cw_X2_leastWithin_X3_spread_52 C) 4 (ci := 3) rfl rfl rfl (by decide) rfl (by decide) (by decide) (As := [.int r1, .int p1, .int p2]) rfl hl (rest := []) rfl (Nat.le_of_ble_eq_true rfl) (st2 := [.long r2]) rfl dX2_leastWithin_9 ⟨Nat.le_of_ble_eq_true rfl, Nat.le_of_ble_eq_true rfl⟩ [0, 1, 2, 3, 4, 5] (by decide) (w3 := wP g a u ++ wS g b w) rfl (fun H locs X => ?_)
  clear hcl
  refine lv_lstore (lv' := [(4, .long r2), (0, .ref (a 0)), (1, .ref (b 0)), (2, .int p1), (3, .int p2)]) hx hb dX2_leastWithin_12 hl (by decide) rfl (fun ls hl => ?_)
  refine lv_aload_n hx hb dX2_leastWithin_14 rfl (lv_at hl 2 rfl) ?_
  refine lv_iload_n hx hb dX2_leastWithin_15 rfl (lv_at hl 3 rfl) ?_
  refine lv_iload_n hx hb dX2_leastWithin_16 rfl (lv_at hl 4 rfl) ?_
  obtain ⟨r3, hcl, hm⟩ := bnd hm
  refine kVF [4, 5] [0, 1, 2, 3] C X (kX3_scale l g b p1 p2 w r3 hcl) (cw_X2_leastWithin_X3_scale_56 C) 4 (ci := 3) rfl rfl rfl (by decide) rfl (by decide) (by decide) (As := [.int p1, .int p2]) rfl hl (rest := []) rfl (Nat.le_of_ble_eq_true rfl) (st2 := [.long r3]) rfl dX2_leastWithin_17 ⟨Nat.le_of_ble_eq_true rfl, Nat.le_of_ble_eq_true rfl⟩ [0, 1, 2, 3, 4, 5] (by decide) (w3 := wP g a u ++ wS g b w) rfl (fun H locs X => ?_)
  clear hcl
  refine lv_lstore (lv' := [(6, .long r3), (4, .long r2), (0, .ref (a 0)), (1, .ref (b 0)), (2, .int p1), (3, .int p2)]) hx hb dX2_leastWithin_20 hl (by decide) rfl (fun ls hl => ?_)
  refine lv_iconst (v := 0) hx hb dX2_leastWithin_22 (by decide) ?_
  refine lv_istore (lv' := [(8, .int 0), (6, .long r3), (4, .long r2), (0, .ref (a 0)), (1, .ref (b 0)), (2, .int p1), (3, .int p2)]) hx hb dX2_leastWithin_23 hl (by decide) rfl (fun ls hl => ?_)
  obtain ⟨y11, hL, hm⟩ := bnd hm
  obtain ⟨nn, hn⟩ := lp_run hL
  refine tX2_leastWithin_25 a b C r2 r3 u w y11 (fun H locs ls X hl => ?_) nn _ hn _ _ _ X (lv_sub hl [2, 1, 0] rfl)
  clear hL hn
  refine lv_iload hx hb dX2_leastWithin_50 (lv_at hl 0 rfl) ?_
  cases sm hm
  exact kiret C X dX2_leastWithin_52
-- X2 BrushStrokes$Simplifier.split(LBrushStrokes$Stroke;II)I
abbrev rX2_split : Room := { frames := 3, cells := 0, slots := 0, locals := 86 }
theorem cw_X2_split_X3_size_29 {p : Program} {s : State} {m : MethodId} {args : Array Value} {meth : Method} {c : Code} {g : kG} {A : Nat → Prop} (C : CT g p s m args meth c RX2 cX2_split 10 (some .int) wsX2_split A) : CallW rX2_split s args RX2 RX3 29 yX3_size cX3_size 1 (some .int) wsX3_size rX3_size 0 0 0 := cwV 0 C.2.2.2.2.2.1 gX2_split_X3_size rfl rfl rfl (by decide +kernel) ⟨Nat.le_of_ble_eq_true rfl, Nat.le_of_ble_eq_true rfl⟩
theorem cw_X2_split_X2_nextOf_45 {p : Program} {s : State} {m : MethodId} {args : Array Value} {meth : Method} {c : Code} {g : kG} {A : Nat → Prop} (C : CT g p s m args meth c RX2 cX2_split 10 (some .int) wsX2_split A) : CallW rX2_split s args RX2 RX2 45 yX2_nextOf cX2_nextOf 5 (some .int) wsX2_nextOf rX2_nextOf 0 0 3 := cwV 3 C.2.2.2.2.2.1 gX2_split_X2_nextOf rfl rfl rfl (by decide +kernel) ⟨Nat.le_of_ble_eq_true rfl, Nat.le_of_ble_eq_true rfl⟩
theorem cw_X2_split_X3_farthestBetween_49 {p : Program} {s : State} {m : MethodId} {args : Array Value} {meth : Method} {c : Code} {g : kG} {A : Nat → Prop} (C : CT g p s m args meth c RX2 cX2_split 10 (some .int) wsX2_split A) : CallW rX2_split s args RX2 RX3 49 yX3_farthestBetween cX3_farthestBetween 9 (some .int) wsX3_farthestBetween rX3_farthestBetween 0 0 2 := cwV 2 C.2.2.2.2.2.1 gX2_split_X3_farthestBetween rfl rfl rfl (by decide +kernel) ⟨Nat.le_of_ble_eq_true rfl, Nat.le_of_ble_eq_true rfl⟩
theorem cw_X2_split_X3_spread_52 {p : Program} {s : State} {m : MethodId} {args : Array Value} {meth : Method} {c : Code} {g : kG} {A : Nat → Prop} (C : CT g p s m args meth c RX2 cX2_split 10 (some .int) wsX2_split A) : CallW rX2_split s args RX2 RX3 52 yX3_spread cX3_spread 16 (some .long) wsX3_spread rX3_spread 0 0 3 := cwV 3 C.2.2.2.2.2.1 gX2_split_X3_spread rfl rfl rfl (by decide +kernel) ⟨Nat.le_of_ble_eq_true rfl, Nat.le_of_ble_eq_true rfl⟩
theorem cw_X2_split_X3_scale_56 {p : Program} {s : State} {m : MethodId} {args : Array Value} {meth : Method} {c : Code} {g : kG} {A : Nat → Prop} (C : CT g p s m args meth c RX2 cX2_split 10 (some .int) wsX2_split A) : CallW rX2_split s args RX2 RX3 56 yX3_scale cX3_scale 3 (some .long) wsX3_scale rX3_scale 0 0 2 := cwV 2 C.2.2.2.2.2.1 gX2_split_X3_scale rfl rfl rfl (by decide +kernel) ⟨Nat.le_of_ble_eq_true rfl, Nat.le_of_ble_eq_true rfl⟩
theorem cw_X2_split_X2_isWithin_60 {p : Program} {s : State} {m : MethodId} {args : Array Value} {meth : Method} {c : Code} {g : kG} {A : Nat → Prop} (C : CT g p s m args meth c RX2 cX2_split 10 (some .int) wsX2_split A) : CallB rX2_split s args RX2 60 yX2_isWithin cX2_isWithin 5 (some .boolean) wsX2_isWithin rX2_isWithin 0 0 3 ∧ (Cond.static yX2_isWithin).before args s = true := cwS 3 C.2.2.2.2.2.1 gX2_split_X2_isWithin rfl rfl rfl (by decide +kernel) ⟨Nat.le_of_ble_eq_true rfl, Nat.le_of_ble_eq_true rfl⟩
noncomputable def bX2_split_17 (c2 : Int32) (c3 : Int32) (w7 : PS) (w8 : SS) : Int32 × Int32 × Int32 → Option ((Int32 × Int32 × Int32) ⊕ (Int32))
  | (x4, x5, x6) => if 48 ≤ x6 then (some (.inr x4)) else (if c3 ≤ x5 then (some (.inr x4)) else ((fX2_nextOf x4 x5 c3 w7).bind fun r10 => (fX3_farthestBetween x5 r10 w8).bind fun r11 => (fX3_spread r11 x5 r10 w8).bind fun r12 => (fX3_scale x5 r10 w8).bind fun r13 => (fX2_isWithin c2 r12 r13).bind fun r14 => ((if r14 = 0 then (some (x4 ||| (1 <<< (r11 &&& 31)), x5)) else (some (x4, r10))) : Option (Int32 × Int32)).bind fun (v15, v16) => some (.inl (v15, v16, x6 + 1))))
noncomputable def lX2_split_17 (c2 : Int32) (c3 : Int32) (w7 : PS) (w8 : SS) (x4 : Int32) (x5 : Int32) (x6 : Int32) : Option (Int32) := lp (bX2_split_17 c2 c3 w7 w8) (x4, x5, x6)
theorem lX2_split_17_eq (c2 : Int32) (c3 : Int32) (w7 : PS) (w8 : SS) (x4 : Int32) (x5 : Int32) (x6 : Int32) : lX2_split_17 c2 c3 w7 w8 x4 x5 x6 = (if 48 ≤ x6 then (some (.inr x4)) else (if c3 ≤ x5 then (some (.inr x4)) else ((fX2_nextOf x4 x5 c3 w7).bind fun r10 => (fX3_farthestBetween x5 r10 w8).bind fun r11 => (fX3_spread r11 x5 r10 w8).bind fun r12 => (fX3_scale x5 r10 w8).bind fun r13 => (fX2_isWithin c2 r12 r13).bind fun r14 => ((if r14 = 0 then (some (x4 ||| (1 <<< (r11 &&& 31)), x5)) else (some (x4, r10))) : Option (Int32 × Int32)).bind fun (v15, v16) => some (.inl (v15, v16, x6 + 1))))).bind fun r => Sum.elim (fun z => lX2_split_17 c2 c3 w7 w8 z.1 z.2.1 z.2.2) (fun r => some r) r := lp_eq (bX2_split_17 c2 c3 w7 w8) (x4, x5, x6)
set_option maxRecDepth 100000 in
set_option maxHeartbeats 4000000 in
theorem tX2_split_17 {p : Program} {l : Launch} {e : Env} {s : State} {m : MethodId} {args : Array Value} {below : List Frame} {meth : Method} {c : Code} {g : kG} {A : Nat → Prop} {Q : State → Prop} (a : Nat → Nat) (b : Nat → Nat) (C : CT g p s m args meth c RX2 cX2_split 10 (some .int) wsX2_split A) (c2 : Int32) (c3 : Int32) (w7 : PS) (w8 : SS) (y9 : Int32) (kk : ∀ (H : Heap) (locs : List Loc) (ls : Array Slot), ST g A s H locs (wP g a w7 ++ wS g b w8) → lv_has ls 10 [(5, .int y9)] → W p l e rX2_split s m args below meth c H locs 0 0 Q (F0 m 100 ls [])) : ∀ (n : Nat) (x4 : Int32) (x5 : Int32) (x6 : Int32), whl (bX2_split_17 c2 c3 w7 w8) n (x4, x5, x6) = some y9 → ∀ (H : Heap) (locs : List Loc) (ls : Array Slot), ST g A s H locs (wP g a w7 ++ wS g b w8) → lv_has ls 10 [(0, .ref (a 0)), (1, .ref (b 0)), (3, .int c2), (4, .int c3), (5, .int x4), (6, .int x5), (7, .int x6)] → W p l e rX2_split s m args below meth c H locs 0 0 Q (F0 m 17 ls []) := by
  have hx := C.1
  have hb := C.2.1
  intro n
  induction n with
  | zero =>
    intro x4 x5 x6 hm
    cases hm
  | succ n ih =>
    intro x4 x5 x6 hm H locs ls X hl
    rw [whl] at hm
    obtain ⟨q, hq, hm2⟩ := bnd hm
    clear hm
    have hm := hq
    clear hq
    rw [bX2_split_17] at hm
    refine lv_iload hx hb dX2_split_17 (lv_at hl 6 rfl) ?_
    refine lv_bipush (v := 48) hx hb dX2_split_19 (by decide) ?_
    refine lv_icmp_ge (tgt := 100) hx hb dX2_split_21 (by decide) (fun hc => ?_) (fun hc => ?_)
    · have hm := ifp hc hm
      cases sm hm
      cases sm hm2
      exact kk _ _ _ X (lv_sub hl [4] rfl)
    · have hm := ifn hc hm
      refine lv_iload hx hb dX2_split_24 (lv_at hl 5 rfl) ?_
      refine lv_iload hx hb dX2_split_26 (lv_at hl 3 rfl) ?_
      refine lv_icmp_ge (tgt := 100) hx hb dX2_split_28 (by decide) (fun hc => ?_) (fun hc => ?_)
      · have hm := ifp hc hm
        cases sm hm
        cases sm hm2
        exact kk _ _ _ X (lv_sub hl [4] rfl)
      · have hm := ifn hc hm
        refine lv_aload_n hx hb dX2_split_31 rfl (lv_at hl 0 rfl) ?_
        refine lv_iload hx hb dX2_split_32 (lv_at hl 4 rfl) ?_
        refine lv_iload hx hb dX2_split_34 (lv_at hl 5 rfl) ?_
        refine lv_iload hx hb dX2_split_36 (lv_at hl 3 rfl) ?_
        obtain ⟨r10, hcl, hm⟩ := bnd hm
        refine kVF [0, 1, 2, 3] [4, 5] C X (kX2_nextOf l g a x4 x5 c3 w7 r10 hcl) (cw_X2_split_X2_nextOf_45 C) 0 (ci := 2) rfl rfl rfl (by decide) rfl (by decide) (by decide) (As := [.int x4, .int x5, .int c3]) rfl hl (rest := []) rfl (Nat.le_of_ble_eq_true rfl) (st2 := [.int r10]) rfl dX2_split_38 ⟨Nat.le_of_ble_eq_true rfl, Nat.le_of_ble_eq_true rfl⟩ [2, 3, 4, 5, 0, 1] (by decide) (w3 := wP g a w7 ++ wS g b w8) rfl (fun H locs X => ?_)
        clear hcl
        refine lv_istore (lv' := [(8, .int r10), (0, .ref (a 0)), (1, .ref (b 0)), (3, .int c2), (4, .int c3), (5, .int x4), (6, .int x5), (7, .int x6)]) hx hb dX2_split_41 hl (by decide) rfl (fun ls hl => ?_)
        refine lv_aload_n hx hb dX2_split_43 rfl (lv_at hl 2 rfl) ?_
        refine lv_iload hx hb dX2_split_44 (lv_at hl 6 rfl) ?_
        refine lv_iload hx hb dX2_split_46 (lv_at hl 0 rfl) ?_
        obtain ⟨r11, hcl, hm⟩ := bnd hm
        refine kVF [4, 5] [0, 1, 2, 3] C X (kX3_farthestBetween l g b x5 r10 w8 r11 hcl) (cw_X2_split_X3_farthestBetween_49 C) 4 (ci := 3) rfl rfl rfl (by decide) rfl (by decide) (by decide) (As := [.int x5, .int r10]) rfl hl (rest := []) rfl (Nat.le_of_ble_eq_true rfl) (st2 := [.int r11]) rfl dX2_split_48 ⟨Nat.le_of_ble_eq_true rfl, Nat.le_of_ble_eq_true rfl⟩ [0, 1, 2, 3, 4, 5] (by decide) (w3 := wP g a w7 ++ wS g b w8) rfl (fun H locs X => ?_)
        clear hcl
        refine lv_istore (lv' := [(9, .int r11), (8, .int r10), (0, .ref (a 0)), (1, .ref (b 0)), (3, .int c2), (4, .int c3), (5, .int x4), (6, .int x5), (7, .int x6)]) hx hb dX2_split_51 hl (by decide) rfl (fun ls hl => ?_)
        refine lv_iload_n hx hb dX2_split_53 rfl (lv_at hl 4 rfl) ?_
        refine lv_aload_n hx hb dX2_split_54 rfl (lv_at hl 3 rfl) ?_
        refine lv_iload hx hb dX2_split_55 (lv_at hl 0 rfl) ?_
        refine lv_iload hx hb dX2_split_57 (lv_at hl 7 rfl) ?_
        refine lv_iload hx hb dX2_split_59 (lv_at hl 1 rfl) ?_
        obtain ⟨r12, hcl, hm⟩ := bnd hm
        refine kVF [4, 5] [0, 1, 2, 3] C X (kX3_spread l g b r11 x5 r10 w8 r12 hcl) (cw_X2_split_X3_spread_52 C) 4 (ci := 3) rfl rfl rfl (by decide) rfl (by decide) (by decide) (As := [.int r11, .int x5, .int r10]) rfl hl (rest := [.int c2]) rfl (Nat.le_of_ble_eq_true rfl) (st2 := [.long r12, .int c2]) rfl dX2_split_61 ⟨Nat.le_of_ble_eq_true rfl, Nat.le_of_ble_eq_true rfl⟩ [0, 1, 2, 3, 4, 5] (by decide) (w3 := wP g a w7 ++ wS g b w8) rfl (fun H locs X => ?_)
        clear hcl
        refine lv_aload_n hx hb dX2_split_64 rfl (lv_at hl 3 rfl) ?_
        refine lv_iload hx hb dX2_split_65 (lv_at hl 7 rfl) ?_
        refine lv_iload hx hb dX2_split_67 (lv_at hl 1 rfl) ?_
        obtain ⟨r13, hcl, hm⟩ := bnd hm
        refine kVF [4, 5] [0, 1, 2, 3] C X (kX3_scale l g b x5 r10 w8 r13 hcl) (cw_X2_split_X3_scale_56 C) 4 (ci := 3) rfl rfl rfl (by decide) rfl (by decide) (by decide) (As := [.int x5, .int r10]) rfl hl (rest := [.long r12, .int c2]) rfl (Nat.le_of_ble_eq_true rfl) (st2 := [.long r13, .long r12, .int c2]) rfl dX2_split_69 ⟨Nat.le_of_ble_eq_true rfl, Nat.le_of_ble_eq_true rfl⟩ [0, 1, 2, 3, 4, 5] (by decide) (w3 := wP g a w7 ++ wS g b w8) rfl (fun H locs X => ?_)
        clear hcl
        obtain ⟨r14, hcl, hm⟩ := bnd hm
        refine kS0 C X (kX2_isWithin l g c2 r12 r13 r14 hcl) (cw_X2_split_X2_isWithin_60 C) (As := [.int c2, .long r12, .long r13]) rfl hl (rest := []) rfl (Nat.le_of_ble_eq_true rfl) (st2 := [.int r14]) rfl dX2_split_72 ⟨Nat.le_of_ble_eq_true rfl, Nat.le_of_ble_eq_true rfl⟩ (fun H locs X => ?_)
        clear hcl
        obtain ⟨⟨v15, v16⟩, hE, hm⟩ := bnd hm
        have K : ∀ (H : Heap) (locs : List Loc) (ls : Array Slot), ST g A s H locs (wP g a w7 ++ wS g b w8) → lv_has ls 10 [(0, .ref (a 0)), (1, .ref (b 0)), (3, .int c2), (4, .int c3), (5, .int v15), (6, .int v16), (7, .int x6)] → W p l e rX2_split s m args below meth c H locs 0 0 Q (F0 m 94 ls []) := by
          intro H locs ls X hl
          clear hE
          refine lv_iinc (v := x6 + 1) (lv' := [(7, .int (x6 + 1)), (0, .ref (a 0)), (1, .ref (b 0)), (3, .int c2), (4, .int c3), (5, .int v15), (6, .int v16)]) hx hb dX2_split_94 hl (k := 6) rfl rfl (by decide) rfl (fun ls hl => ?_)
          refine lv_goto (tgt := 17) hx hb dX2_split_97 (by decide) ?_
          cases sm hm
          exact ih _ _ _ hm2 _ _ _ X (lv_sub hl [1, 2, 3, 4, 5, 6, 0] rfl)
        clear hm
        have hm := hE
        clear hE
        refine lv_if_eq (tgt := 85) hx hb dX2_split_75 (by decide) (fun hc => ?_) (fun hc => ?_)
        · have hm := ifp hc hm
          refine lv_iload hx hb dX2_split_85 (lv_at hl 6 rfl) ?_
          refine lv_iconst (v := 1) hx hb dX2_split_87 (by decide) ?_
          refine lv_iload hx hb dX2_split_88 (lv_at hl 0 rfl) ?_
          refine lv_ishl hx hb dX2_split_90 ?_
          refine lv_ior hx hb dX2_split_91 ?_
          refine lv_istore (lv' := [(5, .int (x4 ||| (1 <<< (r11 &&& 31)))), (9, .int r11), (8, .int r10), (0, .ref (a 0)), (1, .ref (b 0)), (3, .int c2), (4, .int c3), (6, .int x5), (7, .int x6)]) hx hb dX2_split_92 hl (by decide) rfl (fun ls hl => ?_)
          cases sm hm
          exact K _ _ _ X (lv_sub hl [3, 4, 5, 6, 0, 7, 8] rfl)
        · have hm := ifn hc hm
          refine lv_iload hx hb dX2_split_78 (lv_at hl 1 rfl) ?_
          refine lv_istore (lv' := [(6, .int r10), (9, .int r11), (8, .int r10), (0, .ref (a 0)), (1, .ref (b 0)), (3, .int c2), (4, .int c3), (5, .int x4), (7, .int x6)]) hx hb dX2_split_80 hl (by decide) rfl (fun ls hl => ?_)
          refine lv_goto (tgt := 94) hx hb dX2_split_82 (by decide) ?_
          cases sm hm
          exact K _ _ _ X (lv_sub hl [3, 4, 5, 6, 7, 0, 8] rfl)
noncomputable def fX2_split (p1 : Int32) (p2 : Int32) (u : PS) (w : SS) : Option (Int32) := (fX3_size w).bind fun r1 => (lX2_split_17 p2 (r1 - 1) u w p1 0 0).bind fun y17 => some y17
set_option maxRecDepth 100000 in
set_option maxHeartbeats 4000000 in
theorem kX2_split (l : Launch) (g : kG) (a : Nat → Nat) (b : Nat → Nat) (p1 : Int32) (p2 : Int32) (u : PS) (w : SS) (o1 : Int32) (hm : fX2_split p1 p2 u w = some o1) : KM l yX2_split wsX2_split rX2_split g [.ref (a 0), .ref (b 0), .int p1, .int p2] (wP g a u ++ wS g b w) (some (.int o1)) (wP g a u ++ wS g b w) 0 0 := by
  refine KM.of (nL := 10) (by decide) rfl (Nat.le_of_ble_eq_true rfl) ?_
  intro p e s m args below meth c A ls C X hl
  have C : CT g p s m args meth c RX2 cX2_split 10 (some .int) wsX2_split A := C
  have hx := C.1
  have hb := C.2.1
  have hl : lv_has ls 10 [(0, .ref (a 0)), (1, .ref (b 0)), (2, .int p1), (3, .int p2)] := hl
  rw [fX2_split] at hm
  refine lv_aload_n hx hb dX2_split_0 rfl (lv_at hl 1 rfl) ?_
  obtain ⟨r1, hcl, hm⟩ := bnd hm
  refine kVF [4, 5] [0, 1, 2, 3] C X (kX3_size l g b w r1 hcl) (cw_X2_split_X3_size_29 C) 4 (ci := 3) rfl rfl rfl (by decide) rfl (by decide) (by decide) (As := []) rfl hl (rest := []) rfl (Nat.le_of_ble_eq_true rfl) (st2 := [.int r1]) rfl dX2_split_1 ⟨Nat.le_of_ble_eq_true rfl, Nat.le_of_ble_eq_true rfl⟩ [0, 1, 2, 3, 4, 5] (by decide) (w3 := wP g a u ++ wS g b w) rfl (fun H locs X => ?_)
  clear hcl
  refine lv_iconst (v := 1) hx hb dX2_split_4 (by decide) ?_
  refine lv_isub hx hb dX2_split_5 ?_
  refine lv_istore (lv' := [(4, .int (r1 - 1)), (0, .ref (a 0)), (1, .ref (b 0)), (2, .int p1), (3, .int p2)]) hx hb dX2_split_6 hl (by decide) rfl (fun ls hl => ?_)
  refine lv_iload_n hx hb dX2_split_8 rfl (lv_at hl 3 rfl) ?_
  refine lv_istore (lv' := [(5, .int p1), (4, .int (r1 - 1)), (0, .ref (a 0)), (1, .ref (b 0)), (2, .int p1), (3, .int p2)]) hx hb dX2_split_9 hl (by decide) rfl (fun ls hl => ?_)
  refine lv_iconst (v := 0) hx hb dX2_split_11 (by decide) ?_
  refine lv_istore (lv' := [(6, .int 0), (5, .int p1), (4, .int (r1 - 1)), (0, .ref (a 0)), (1, .ref (b 0)), (2, .int p1), (3, .int p2)]) hx hb dX2_split_12 hl (by decide) rfl (fun ls hl => ?_)
  refine lv_iconst (v := 0) hx hb dX2_split_14 (by decide) ?_
  refine lv_istore (lv' := [(7, .int 0), (6, .int 0), (5, .int p1), (4, .int (r1 - 1)), (0, .ref (a 0)), (1, .ref (b 0)), (2, .int p1), (3, .int p2)]) hx hb dX2_split_15 hl (by decide) rfl (fun ls hl => ?_)
  obtain ⟨y17, hL, hm⟩ := bnd hm
  obtain ⟨nn, hn⟩ := lp_run hL
  refine tX2_split_17 a b C p2 (r1 - 1) u w y17 (fun H locs ls X hl => ?_) nn _ _ _ hn _ _ _ X (lv_sub hl [4, 5, 7, 3, 2, 1, 0] rfl)
  clear hL hn
  refine lv_iload hx hb dX2_split_100 (lv_at hl 0 rfl) ?_
  cases sm hm
  exact kiret C X dX2_split_102
-- X2 BrushStrokes$Simplifier.measure(LBrushStrokes$Stroke;I)V
abbrev rX2_measure : Room := { frames := 4, cells := 0, slots := 0, locals := 114 }
theorem fl_X2_measure_9 : (Cond.fieldLink RX2 9 "BrushStrokes$Simplifier" "needs" "[I") ∈ wsX2_measure := by decide +kernel
theorem in_X2_measure_X2 : ∀ w ∈ u_ws RX2 TX2 3, w ∈ wsX2_measure := by decide +kernel
theorem cw_X2_measure_X2_leastWithin_68 {p : Program} {s : State} {m : MethodId} {args : Array Value} {meth : Method} {c : Code} {g : kG} {A : Nat → Prop} (C : CT g p s m args meth c RX2 cX2_measure 7 none wsX2_measure A) : CallW rX2_measure s args RX2 RX2 68 yX2_leastWithin cX2_leastWithin 9 (some .int) wsX2_leastWithin rX2_leastWithin 0 0 3 := cwV 3 C.2.2.2.2.2.1 gX2_measure_X2_leastWithin rfl rfl rfl (by decide +kernel) ⟨Nat.le_of_ble_eq_true rfl, Nat.le_of_ble_eq_true rfl⟩
theorem cw_X2_measure_X3_size_29 {p : Program} {s : State} {m : MethodId} {args : Array Value} {meth : Method} {c : Code} {g : kG} {A : Nat → Prop} (C : CT g p s m args meth c RX2 cX2_measure 7 none wsX2_measure A) : CallW rX2_measure s args RX2 RX3 29 yX3_size cX3_size 1 (some .int) wsX3_size rX3_size 0 0 0 := cwV 0 C.2.2.2.2.2.1 gX2_measure_X3_size rfl rfl rfl (by decide +kernel) ⟨Nat.le_of_ble_eq_true rfl, Nat.le_of_ble_eq_true rfl⟩
theorem cw_X2_measure_X5_putCell_71 {p : Program} {s : State} {m : MethodId} {args : Array Value} {meth : Method} {c : Code} {g : kG} {A : Nat → Prop} (C : CT g p s m args meth c RX2 cX2_measure 7 none wsX2_measure A) : va_CN rX2_measure s args RX2 71 yX5_putCell RX5 cX5_putCell 3 none wsX5_putCell rX5_putCell 0 0 3 ∧ (Cond.static yX5_putCell).before args s = true ∧ True := ⟨va_cnB 3 C.2.2.2.2.2.1 gX2_measure_X5_putCell_n71 rfl rfl rfl (C.2.2.2.2.2.2.2.1.2.1.1 (RX2, 71, yX5_putCell, RX5) (by decide +kernel)) (C.2.2.2.2.2.1 (.initialized RX5) (by decide +kernel)) (by decide +kernel) ⟨Nat.le_of_ble_eq_true rfl, Nat.le_of_ble_eq_true rfl⟩, C.2.2.2.2.2.1 (.static yX5_putCell) (by decide +kernel), trivial⟩
theorem cw_X2_measure_X5_hasBit_64 {p : Program} {s : State} {m : MethodId} {args : Array Value} {meth : Method} {c : Code} {g : kG} {A : Nat → Prop} (C : CT g p s m args meth c RX2 cX2_measure 7 none wsX2_measure A) : va_CN rX2_measure s args RX2 64 yX5_hasBit RX5 cX5_hasBit 2 (some .boolean) wsX5_hasBit rX5_hasBit 0 0 2 ∧ (Cond.static yX5_hasBit).before args s = true ∧ True := ⟨va_cnB 2 C.2.2.2.2.2.1 gX2_measure_X5_hasBit_n64 rfl rfl rfl (C.2.2.2.2.2.2.2.1.2.1.1 (RX2, 64, yX5_hasBit, RX5) (by decide +kernel)) (C.2.2.2.2.2.1 (.initialized RX5) (by decide +kernel)) (by decide +kernel) ⟨Nat.le_of_ble_eq_true rfl, Nat.le_of_ble_eq_true rfl⟩, C.2.2.2.2.2.1 (.static yX5_hasBit) (by decide +kernel), trivial⟩
noncomputable def bX2_measure_18 (c7 : Int32) (c8 : Int32) (w12 : SS) : Int32 × Int32 × PS → Option ((Int32 × Int32 × PS) ⊕ (PS))
  | (x9, x10, u11) => if x10 < 0 then (some (.inr u11)) else (((if x9 = 0 then ((fX2_leastWithin x10 c8 u11 w12).bind fun r16 => some r16) else (some 51)) : Option (Int32)).bind fun v15 => (fX5_putCell ((x10 * 24) + c8) v15 576 (P_needs u11)).bind fun u17 => ((if x9 = 0 then ((fX5_hasBit c7 x10).bind fun r20 => if r20 = 0 then (some 0) else (some 1)) else (some 1)) : Option (Int32)).bind fun v19 => some (.inl (v19, x10 + (-1), P_s_needs u11 u17)))
noncomputable def lX2_measure_18 (c7 : Int32) (c8 : Int32) (w12 : SS) (x9 : Int32) (x10 : Int32) (u11 : PS) : Option (PS) := lp (bX2_measure_18 c7 c8 w12) (x9, x10, u11)
theorem lX2_measure_18_eq (c7 : Int32) (c8 : Int32) (w12 : SS) (x9 : Int32) (x10 : Int32) (u11 : PS) : lX2_measure_18 c7 c8 w12 x9 x10 u11 = (if x10 < 0 then (some (.inr u11)) else (((if x9 = 0 then ((fX2_leastWithin x10 c8 u11 w12).bind fun r16 => some r16) else (some 51)) : Option (Int32)).bind fun v15 => (fX5_putCell ((x10 * 24) + c8) v15 576 (P_needs u11)).bind fun u17 => ((if x9 = 0 then ((fX5_hasBit c7 x10).bind fun r20 => if r20 = 0 then (some 0) else (some 1)) else (some 1)) : Option (Int32)).bind fun v19 => some (.inl (v19, x10 + (-1), P_s_needs u11 u17)))).bind fun r => Sum.elim (fun z => lX2_measure_18 c7 c8 w12 z.1 z.2.1 z.2.2) (fun r => some r) r := lp_eq (bX2_measure_18 c7 c8 w12) (x9, x10, u11)
set_option maxRecDepth 100000 in
set_option maxHeartbeats 4000000 in
theorem tX2_measure_18 {p : Program} {l : Launch} {e : Env} {s : State} {m : MethodId} {args : Array Value} {below : List Frame} {meth : Method} {c : Code} {g : kG} {A : Nat → Prop} {Q : State → Prop} (a : Nat → Nat) (b : Nat → Nat) (C : CT g p s m args meth c RX2 cX2_measure 7 none wsX2_measure A) (c7 : Int32) (c8 : Int32) (w12 : SS) (u13 : PS) (kk : ∀ (H : Heap) (locs : List Loc) (ls : Array Slot), ST g A s H locs (wP g a u13 ++ wS g b w12) → lv_has ls 7 [(0, .ref (a 0)), (1, .ref (b 0)), (2, .int c7), (3, .int c8)] → W p l e rX2_measure s m args below meth c H locs 0 0 Q (F0 m 86 ls [])) : ∀ (n : Nat) (x9 : Int32) (x10 : Int32) (u11 : PS), whl (bX2_measure_18 c7 c8 w12) n (x9, x10, u11) = some u13 → ∀ (H : Heap) (locs : List Loc) (ls : Array Slot), ST g A s H locs (wP g a u11 ++ wS g b w12) → lv_has ls 7 [(0, .ref (a 0)), (1, .ref (b 0)), (2, .int c7), (3, .int c8), (4, .int x9), (5, .int x10)] → W p l e rX2_measure s m args below meth c H locs 0 0 Q (F0 m 18 ls []) := by
  have hx := C.1
  have hb := C.2.1
  have hinX2 := in_X2_measure_X2
  have hf9 := C.2.2.2.2.2.1 _ fl_X2_measure_9
  intro n
  induction n with
  | zero =>
    intro x9 x10 u11 hm
    cases hm
  | succ n ih =>
    intro x9 x10 u11 hm H locs ls X hl
    rw [whl] at hm
    obtain ⟨q, hq, hm2⟩ := bnd hm
    clear hm
    have hm := hq
    clear hq
    rw [bX2_measure_18] at hm
    refine lv_iload hx hb dX2_measure_18 (lv_at hl 5 rfl) ?_
    refine lv_if_lt (tgt := 86) hx hb dX2_measure_20 (by decide) (fun hc => ?_) (fun hc => ?_)
    · have hm := ifp hc hm
      cases sm hm
      cases sm hm2
      exact kk _ _ _ X (lv_sub hl [0, 1, 2, 3] rfl)
    · have hm := ifn hc hm
      refine lv_iload hx hb dX2_measure_23 (lv_at hl 4 rfl) ?_
      obtain ⟨v15, hE, hm⟩ := bnd hm
      have K : ∀ (H : Heap) (locs : List Loc) (ls : Array Slot), ST g A s H locs (wP g a u11 ++ wS g b w12) → lv_has ls 7 [(0, .ref (a 0)), (1, .ref (b 0)), (2, .int c7), (3, .int c8), (4, .int x9), (5, .int x10)] → W p l e rX2_measure s m args below meth c H locs 0 0 Q (F0 m 41 ls [.int v15]) := by
        intro H locs ls X hl
        clear hE
        refine lv_istore (lv' := [(6, .int v15), (0, .ref (a 0)), (1, .ref (b 0)), (2, .int c7), (3, .int c8), (4, .int x9), (5, .int x10)]) hx hb dX2_measure_41 hl (by decide) rfl (fun ls hl => ?_)
        refine lv_aload_n hx hb dX2_measure_43 rfl (lv_at hl 1 rfl) ?_
        refine kget C X 0 (ci := 2) rfl rfl hinX2 0 (by decide) hf9 (v := .ref (a 1)) rfl dX2_measure_44 ?_
        refine lv_iload hx hb dX2_measure_47 (lv_at hl 6 rfl) ?_
        refine lv_bipush (v := 24) hx hb dX2_measure_49 (by decide) ?_
        refine lv_imul hx hb dX2_measure_51 ?_
        refine lv_iload_n hx hb dX2_measure_52 rfl (lv_at hl 4 rfl) ?_
        refine lv_iadd hx hb dX2_measure_53 ?_
        refine lv_iload hx hb dX2_measure_54 (lv_at hl 0 rfl) ?_
        obtain ⟨u17, hcl, hm⟩ := bnd hm
        refine kNF [1] [0, 2, 3, 4, 5] C X (kX5_putCell l g (fun _ => a 1) ((x10 * 24) + c8) v15 576 (P_needs u11) u17 hcl) (cw_X2_measure_X5_putCell_71 C) rfl (by decide) rfl (by decide) (by decide) (As := [.ref (a 1), .int ((x10 * 24) + c8), .int v15]) rfl hl (rest := []) rfl (Nat.le_of_ble_eq_true rfl) (st2 := []) rfl dX2_measure_56 ⟨Nat.le_of_ble_eq_true rfl, Nat.le_of_ble_eq_true rfl⟩ [0, 5, 1, 2, 3, 4] (by decide) (w3 := wP g a (P_s_needs u11 u17) ++ wS g b w12) rfl (fun H locs X => ?_)
        clear hcl
        refine lv_iload hx hb dX2_measure_59 (lv_at hl 5 rfl) ?_
        obtain ⟨v19, hE, hm⟩ := bnd hm
        have K : ∀ (H : Heap) (locs : List Loc) (ls : Array Slot), ST g A s H locs (wP g a (P_s_needs u11 u17) ++ wS g b w12) → lv_has ls 7 [(0, .ref (a 0)), (1, .ref (b 0)), (2, .int c7), (3, .int c8), (5, .int x10)] → W p l e rX2_measure s m args below meth c H locs 0 0 Q (F0 m 78 ls [.int v19]) := by
          intro H locs ls X hl
          clear hE
          refine lv_istore (lv' := [(4, .int v19), (0, .ref (a 0)), (1, .ref (b 0)), (2, .int c7), (3, .int c8), (5, .int x10)]) hx hb dX2_measure_78 hl (by decide) rfl (fun ls hl => ?_)
          refine lv_iinc (v := x10 + (-1)) (lv' := [(5, .int (x10 + (-1))), (4, .int v19), (0, .ref (a 0)), (1, .ref (b 0)), (2, .int c7), (3, .int c8)]) hx hb dX2_measure_80 hl (k := 5) rfl rfl (by decide) rfl (fun ls hl => ?_)
          refine lv_goto (tgt := 18) hx hb dX2_measure_83 (by decide) ?_
          cases sm hm
          exact ih _ _ _ hm2 _ _ _ X (lv_sub hl [2, 3, 4, 5, 1, 0] rfl)
        clear hm
        have hm := hE
        clear hE
        refine lv_if_ne (tgt := 73) hx hb dX2_measure_61 (by decide) (fun hc => ?_) (fun hc => ?_)
        · have hm := ifn hc hm
          refine lv_iconst (v := 1) hx hb dX2_measure_73 (by decide) ?_
          refine lv_goto (tgt := 78) hx hb dX2_measure_74 (by decide) ?_
          cases sm hm
          exact K _ _ _ X (lv_sub hl [1, 2, 3, 4, 6] rfl)
        · have hm := ifp hc hm
          refine lv_iload_n hx hb dX2_measure_64 rfl (lv_at hl 3 rfl) ?_
          refine lv_iload hx hb dX2_measure_65 (lv_at hl 6 rfl) ?_
          obtain ⟨r20, hcl, hm⟩ := bnd hm
          refine kN0 C X (kX5_hasBit l g c7 x10 r20 hcl) (cw_X2_measure_X5_hasBit_64 C) (As := [.int c7, .int x10]) rfl hl (rest := []) rfl (Nat.le_of_ble_eq_true rfl) (st2 := [.int r20]) rfl dX2_measure_67 ⟨Nat.le_of_ble_eq_true rfl, Nat.le_of_ble_eq_true rfl⟩ (fun H locs X => ?_)
          clear hcl
          refine lv_if_eq (tgt := 77) hx hb dX2_measure_70 (by decide) (fun hc => ?_) (fun hc => ?_)
          · have hm := ifp hc hm
            refine lv_iconst (v := 0) hx hb dX2_measure_77 (by decide) ?_
            cases sm hm
            exact K _ _ _ X (lv_sub hl [1, 2, 3, 4, 6] rfl)
          · have hm := ifn hc hm
            refine lv_iconst (v := 1) hx hb dX2_measure_73 (by decide) ?_
            refine lv_goto (tgt := 78) hx hb dX2_measure_74 (by decide) ?_
            cases sm hm
            exact K _ _ _ X (lv_sub hl [1, 2, 3, 4, 6] rfl)
      clear hm
      have hm := hE
      clear hE
      refine lv_if_eq (tgt := 33) hx hb dX2_measure_25 (by decide) (fun hc => ?_) (fun hc => ?_)
      · have hm := ifp hc hm
        refine lv_aload_n hx hb dX2_measure_33 rfl (lv_at hl 0 rfl) ?_
        refine lv_aload_n hx hb dX2_measure_34 rfl (lv_at hl 1 rfl) ?_
        refine lv_iload hx hb dX2_measure_35 (lv_at hl 5 rfl) ?_
        refine lv_iload_n hx hb dX2_measure_37 rfl (lv_at hl 3 rfl) ?_
        obtain ⟨r16, hcl, hm⟩ := bnd hm
        refine kVW C X (kX2_leastWithin l g a b x10 c8 u11 w12 r16 hcl) (cw_X2_measure_X2_leastWithin_68 C) 0 (ci := 2) rfl rfl (As := [.ref (b 0), .int x10, .int c8]) rfl hl (rest := []) rfl (Nat.le_of_ble_eq_true rfl) (st2 := [.int r16]) rfl dX2_measure_38 ⟨Nat.le_of_ble_eq_true rfl, Nat.le_of_ble_eq_true rfl⟩ (fun H locs X => ?_)
        clear hcl
        cases sm hm
        exact K _ _ _ X (lv_sub hl [0, 1, 2, 3, 4, 5] rfl)
      · have hm := ifn hc hm
        refine lv_bipush (v := 51) hx hb dX2_measure_28 (by decide) ?_
        refine lv_goto (tgt := 41) hx hb dX2_measure_30 (by decide) ?_
        cases sm hm
        exact K _ _ _ X (lv_sub hl [0, 1, 2, 3, 4, 5] rfl)
noncomputable def bX2_measure_2 (c1 : Int32) (w4 : SS) : Int32 × PS → Option ((Int32 × PS) ⊕ (PS))
  | (x2, u3) => (fX3_size w4).bind fun r6 => if r6 ≤ x2 then (some (.inr u3)) else ((lX2_measure_18 c1 x2 w4 0 (x2 - 1) u3).bind fun u21 => some (.inl (x2 + 1, u21)))
noncomputable def lX2_measure_2 (c1 : Int32) (w4 : SS) (x2 : Int32) (u3 : PS) : Option (PS) := lp (bX2_measure_2 c1 w4) (x2, u3)
theorem lX2_measure_2_eq (c1 : Int32) (w4 : SS) (x2 : Int32) (u3 : PS) : lX2_measure_2 c1 w4 x2 u3 = ((fX3_size w4).bind fun r6 => if r6 ≤ x2 then (some (.inr u3)) else ((lX2_measure_18 c1 x2 w4 0 (x2 - 1) u3).bind fun u21 => some (.inl (x2 + 1, u21)))).bind fun r => Sum.elim (fun z => lX2_measure_2 c1 w4 z.1 z.2) (fun r => some r) r := lp_eq (bX2_measure_2 c1 w4) (x2, u3)
set_option maxRecDepth 100000 in
set_option maxHeartbeats 4000000 in
theorem tX2_measure_2 {p : Program} {l : Launch} {e : Env} {s : State} {m : MethodId} {args : Array Value} {below : List Frame} {meth : Method} {c : Code} {g : kG} {A : Nat → Prop} {Q : State → Prop} (a : Nat → Nat) (b : Nat → Nat) (C : CT g p s m args meth c RX2 cX2_measure 7 none wsX2_measure A) (c1 : Int32) (w4 : SS) (u5 : PS) (kk : ∀ (H : Heap) (locs : List Loc) (ls : Array Slot), ST g A s H locs (wP g a u5 ++ wS g b w4) → lv_has ls 7 [] → W p l e rX2_measure s m args below meth c H locs 0 0 Q (F0 m 92 ls [])) : ∀ (n : Nat) (x2 : Int32) (u3 : PS), whl (bX2_measure_2 c1 w4) n (x2, u3) = some u5 → ∀ (H : Heap) (locs : List Loc) (ls : Array Slot), ST g A s H locs (wP g a u3 ++ wS g b w4) → lv_has ls 7 [(0, .ref (a 0)), (1, .ref (b 0)), (2, .int c1), (3, .int x2)] → W p l e rX2_measure s m args below meth c H locs 0 0 Q (F0 m 2 ls []) := by
  have hx := C.1
  have hb := C.2.1
  intro n
  induction n with
  | zero =>
    intro x2 u3 hm
    cases hm
  | succ n ih =>
    intro x2 u3 hm H locs ls X hl
    rw [whl] at hm
    obtain ⟨q, hq, hm2⟩ := bnd hm
    clear hm
    have hm := hq
    clear hq
    rw [bX2_measure_2] at hm
    refine lv_iload_n hx hb dX2_measure_2 rfl (lv_at hl 3 rfl) ?_
    refine lv_aload_n hx hb dX2_measure_3 rfl (lv_at hl 1 rfl) ?_
    obtain ⟨r6, hcl, hm⟩ := bnd hm
    refine kVF [4, 5] [0, 1, 2, 3] C X (kX3_size l g b w4 r6 hcl) (cw_X2_measure_X3_size_29 C) 4 (ci := 3) rfl rfl rfl (by decide) rfl (by decide) (by decide) (As := []) rfl hl (rest := [.int x2]) rfl (Nat.le_of_ble_eq_true rfl) (st2 := [.int r6, .int x2]) rfl dX2_measure_4 ⟨Nat.le_of_ble_eq_true rfl, Nat.le_of_ble_eq_true rfl⟩ [0, 1, 2, 3, 4, 5] (by decide) (w3 := wP g a u3 ++ wS g b w4) rfl (fun H locs X => ?_)
    clear hcl
    refine lv_icmp_ge (tgt := 92) hx hb dX2_measure_7 (by decide) (fun hc => ?_) (fun hc => ?_)
    · have hm := ifp hc hm
      cases sm hm
      cases sm hm2
      exact kk _ _ _ X (lv_sub hl [] rfl)
    · have hm := ifn hc hm
      refine lv_iconst (v := 0) hx hb dX2_measure_10 (by decide) ?_
      refine lv_istore (lv' := [(4, .int 0), (0, .ref (a 0)), (1, .ref (b 0)), (2, .int c1), (3, .int x2)]) hx hb dX2_measure_11 hl (by decide) rfl (fun ls hl => ?_)
      refine lv_iload_n hx hb dX2_measure_13 rfl (lv_at hl 4 rfl) ?_
      refine lv_iconst (v := 1) hx hb dX2_measure_14 (by decide) ?_
      refine lv_isub hx hb dX2_measure_15 ?_
      refine lv_istore (lv' := [(5, .int (x2 - 1)), (4, .int 0), (0, .ref (a 0)), (1, .ref (b 0)), (2, .int c1), (3, .int x2)]) hx hb dX2_measure_16 hl (by decide) rfl (fun ls hl => ?_)
      obtain ⟨u21, hL, hm⟩ := bnd hm
      obtain ⟨nn, hn⟩ := lp_run hL
      refine tX2_measure_18 a b C c1 x2 w4 u21 (fun H locs ls X hl => ?_) nn _ _ _ hn _ _ _ X (lv_sub hl [2, 3, 4, 5, 1, 0] rfl)
      clear hL hn
      refine lv_iinc (v := x2 + 1) (lv' := [(3, .int (x2 + 1)), (0, .ref (a 0)), (1, .ref (b 0)), (2, .int c1)]) hx hb dX2_measure_86 hl (k := 3) rfl rfl (by decide) rfl (fun ls hl => ?_)
      refine lv_goto (tgt := 2) hx hb dX2_measure_89 (by decide) ?_
      cases sm hm
      exact ih _ _ hm2 _ _ _ X (lv_sub hl [1, 2, 3, 0] rfl)
noncomputable def fX2_measure (p1 : Int32) (u : PS) (w : SS) : Option (PS) := (lX2_measure_2 p1 w 1 u).bind fun u22 => some u22
set_option maxRecDepth 100000 in
set_option maxHeartbeats 4000000 in
theorem kX2_measure (l : Launch) (g : kG) (a : Nat → Nat) (b : Nat → Nat) (p1 : Int32) (u : PS) (w : SS) (o1 : PS) (hm : fX2_measure p1 u w = some o1) : KM l yX2_measure wsX2_measure rX2_measure g [.ref (a 0), .ref (b 0), .int p1] (wP g a u ++ wS g b w) none (wP g a o1 ++ wS g b w) 0 0 := by
  refine KM.of (nL := 7) (by decide) rfl (Nat.le_of_ble_eq_true rfl) ?_
  intro p e s m args below meth c A ls C X hl
  have C : CT g p s m args meth c RX2 cX2_measure 7 none wsX2_measure A := C
  have hx := C.1
  have hb := C.2.1
  have hl : lv_has ls 7 [(0, .ref (a 0)), (1, .ref (b 0)), (2, .int p1)] := hl
  rw [fX2_measure] at hm
  refine lv_iconst (v := 1) hx hb dX2_measure_0 (by decide) ?_
  refine lv_istore_n (lv' := [(3, .int 1), (0, .ref (a 0)), (1, .ref (b 0)), (2, .int p1)]) hx hb dX2_measure_1 rfl hl (by decide) rfl (fun ls hl => ?_)
  obtain ⟨u22, hL, hm⟩ := bnd hm
  obtain ⟨nn, hn⟩ := lp_run hL
  refine tX2_measure_2 a b C p1 w u22 (fun H locs ls X hl => ?_) nn _ _ hn _ _ _ X (lv_sub hl [1, 2, 3, 0] rfl)
  clear hL hn
  cases sm hm
  exact kvret C X dX2_measure_92
-- X2 BrushStrokes$Simplifier.fewest(II)I
abbrev rX2_fewest : Room := { frames := 1, cells := 0, slots := 0, locals := 22 }
theorem fl_X2_fewest_15 : (Cond.fieldLink RX2 15 "BrushStrokes$Simplifier" "counts" "[I") ∈ wsX2_fewest := by decide +kernel
theorem fl_X2_fewest_18 : (Cond.fieldLink RX2 18 "BrushStrokes$Simplifier" "masks" "[I") ∈ wsX2_fewest := by decide +kernel
theorem fl_X2_fewest_9 : (Cond.fieldLink RX2 9 "BrushStrokes$Simplifier" "needs" "[I") ∈ wsX2_fewest := by decide +kernel
theorem in_X2_fewest_X2 : ∀ w ∈ u_ws RX2 TX2 3, w ∈ wsX2_fewest := by decide +kernel
theorem cw_X2_fewest_X5_cell_75 {p : Program} {s : State} {m : MethodId} {args : Array Value} {meth : Method} {c : Code} {g : kG} {A : Nat → Prop} (C : CT g p s m args meth c RX2 cX2_fewest 7 (some .int) wsX2_fewest A) : va_CN rX2_fewest s args RX2 75 yX5_cell RX5 cX5_cell 2 (some .int) wsX5_cell rX5_cell 0 0 2 ∧ (Cond.static yX5_cell).before args s = true ∧ True := ⟨va_cnB 2 C.2.2.2.2.2.1 gX2_fewest_X5_cell_n75 rfl rfl rfl (C.2.2.2.2.2.2.2.1.2.1.1 (RX2, 75, yX5_cell, RX5) (by decide +kernel)) (C.2.2.2.2.2.1 (.initialized RX5) (by decide +kernel)) (by decide +kernel) ⟨Nat.le_of_ble_eq_true rfl, Nat.le_of_ble_eq_true rfl⟩, C.2.2.2.2.2.1 (.static yX5_cell) (by decide +kernel), trivial⟩
theorem cw_X2_fewest_X5_putCell_71 {p : Program} {s : State} {m : MethodId} {args : Array Value} {meth : Method} {c : Code} {g : kG} {A : Nat → Prop} (C : CT g p s m args meth c RX2 cX2_fewest 7 (some .int) wsX2_fewest A) : va_CN rX2_fewest s args RX2 71 yX5_putCell RX5 cX5_putCell 3 none wsX5_putCell rX5_putCell 0 0 3 ∧ (Cond.static yX5_putCell).before args s = true ∧ True := ⟨va_cnB 3 C.2.2.2.2.2.1 gX2_fewest_X5_putCell_n71 rfl rfl rfl (C.2.2.2.2.2.2.2.1.2.1.1 (RX2, 71, yX5_putCell, RX5) (by decide +kernel)) (C.2.2.2.2.2.1 (.initialized RX5) (by decide +kernel)) (by decide +kernel) ⟨Nat.le_of_ble_eq_true rfl, Nat.le_of_ble_eq_true rfl⟩, C.2.2.2.2.2.1 (.static yX5_putCell) (by decide +kernel), trivial⟩
noncomputable def bX2_fewest_37 (c9 : Int32) (c10 : Int32) (w14 : PS) : Int32 × Int32 × Int32 → Option ((Int32 × Int32 × Int32) ⊕ (Int32))
  | (x11, x12, x13) => if c10 ≤ x13 then (some (.inr x11)) else ((fX5_cell ((x13 * 24) + c10) 576 (P_needs w14)).bind fun r16 => ((if c9 < r16 then (some (x11, x12)) else ((fX5_cell x13 24 (P_counts w14)).bind fun r21 => if x12 ≤ r21 then (some (x11, x12)) else ((fX5_cell x13 24 (P_counts w14)).bind fun r22 => some (x13, r22)))) : Option (Int32 × Int32)).bind fun (v19, v20) => some (.inl (v19, v20, x13 + 1)))
noncomputable def lX2_fewest_37 (c9 : Int32) (c10 : Int32) (w14 : PS) (x11 : Int32) (x12 : Int32) (x13 : Int32) : Option (Int32) := lp (bX2_fewest_37 c9 c10 w14) (x11, x12, x13)
theorem lX2_fewest_37_eq (c9 : Int32) (c10 : Int32) (w14 : PS) (x11 : Int32) (x12 : Int32) (x13 : Int32) : lX2_fewest_37 c9 c10 w14 x11 x12 x13 = (if c10 ≤ x13 then (some (.inr x11)) else ((fX5_cell ((x13 * 24) + c10) 576 (P_needs w14)).bind fun r16 => ((if c9 < r16 then (some (x11, x12)) else ((fX5_cell x13 24 (P_counts w14)).bind fun r21 => if x12 ≤ r21 then (some (x11, x12)) else ((fX5_cell x13 24 (P_counts w14)).bind fun r22 => some (x13, r22)))) : Option (Int32 × Int32)).bind fun (v19, v20) => some (.inl (v19, v20, x13 + 1)))).bind fun r => Sum.elim (fun z => lX2_fewest_37 c9 c10 w14 z.1 z.2.1 z.2.2) (fun r => some r) r := lp_eq (bX2_fewest_37 c9 c10 w14) (x11, x12, x13)
set_option maxRecDepth 100000 in
set_option maxHeartbeats 4000000 in
theorem tX2_fewest_37 {p : Program} {l : Launch} {e : Env} {s : State} {m : MethodId} {args : Array Value} {below : List Frame} {meth : Method} {c : Code} {g : kG} {A : Nat → Prop} {Q : State → Prop} (a : Nat → Nat) (C : CT g p s m args meth c RX2 cX2_fewest 7 (some .int) wsX2_fewest A) (c8 : Int32) (c9 : Int32) (c10 : Int32) (w14 : PS) (y15 : Int32) (kk : ∀ (H : Heap) (locs : List Loc) (ls : Array Slot), ST g A s H locs (wP g a w14) → lv_has ls 7 [(0, .ref (a 0)), (1, .int c8), (2, .int c9), (3, .int c10), (4, .int y15)] → W p l e rX2_fewest s m args below meth c H locs 0 0 Q (F0 m 96 ls [])) : ∀ (n : Nat) (x11 : Int32) (x12 : Int32) (x13 : Int32), whl (bX2_fewest_37 c9 c10 w14) n (x11, x12, x13) = some y15 → ∀ (H : Heap) (locs : List Loc) (ls : Array Slot), ST g A s H locs (wP g a w14) → lv_has ls 7 [(0, .ref (a 0)), (1, .int c8), (2, .int c9), (3, .int c10), (4, .int x11), (5, .int x12), (6, .int x13)] → W p l e rX2_fewest s m args below meth c H locs 0 0 Q (F0 m 37 ls []) := by
  have hx := C.1
  have hb := C.2.1
  have hinX2 := in_X2_fewest_X2
  have hf9 := C.2.2.2.2.2.1 _ fl_X2_fewest_9
  have hf15 := C.2.2.2.2.2.1 _ fl_X2_fewest_15
  intro n
  induction n with
  | zero =>
    intro x11 x12 x13 hm
    cases hm
  | succ n ih =>
    intro x11 x12 x13 hm H locs ls X hl
    rw [whl] at hm
    obtain ⟨q, hq, hm2⟩ := bnd hm
    clear hm
    have hm := hq
    clear hq
    rw [bX2_fewest_37] at hm
    refine lv_iload hx hb dX2_fewest_37 (lv_at hl 6 rfl) ?_
    refine lv_iload_n hx hb dX2_fewest_39 rfl (lv_at hl 3 rfl) ?_
    refine lv_icmp_ge (tgt := 96) hx hb dX2_fewest_40 (by decide) (fun hc => ?_) (fun hc => ?_)
    · have hm := ifp hc hm
      cases sm hm
      cases sm hm2
      exact kk _ _ _ X (lv_sub hl [0, 1, 2, 3, 4] rfl)
    · have hm := ifn hc hm
      refine lv_aload_n hx hb dX2_fewest_43 rfl (lv_at hl 0 rfl) ?_
      refine kget C X 0 (ci := 2) rfl rfl hinX2 0 (by decide) hf9 (v := .ref (a 1)) rfl dX2_fewest_44 ?_
      refine lv_iload hx hb dX2_fewest_47 (lv_at hl 6 rfl) ?_
      refine lv_bipush (v := 24) hx hb dX2_fewest_49 (by decide) ?_
      refine lv_imul hx hb dX2_fewest_51 ?_
      refine lv_iload_n hx hb dX2_fewest_52 rfl (lv_at hl 3 rfl) ?_
      refine lv_iadd hx hb dX2_fewest_53 ?_
      obtain ⟨r16, hcl, hm⟩ := bnd hm
      refine kNF [1] [0, 2, 3] C X (kX5_cell l g (fun _ => a 1) ((x13 * 24) + c10) 576 (P_needs w14) r16 hcl) (cw_X2_fewest_X5_cell_75 C) rfl (by decide) rfl (by decide) (by decide) (As := [.ref (a 1), .int ((x13 * 24) + c10)]) rfl hl (rest := []) rfl (Nat.le_of_ble_eq_true rfl) (st2 := [.int r16]) rfl dX2_fewest_54 ⟨Nat.le_of_ble_eq_true rfl, Nat.le_of_ble_eq_true rfl⟩ [0, 3, 1, 2] (by decide) (w3 := wP g a w14) rfl (fun H locs X => ?_)
      clear hcl
      refine lv_iload_n hx hb dX2_fewest_57 rfl (lv_at hl 2 rfl) ?_
      obtain ⟨⟨v19, v20⟩, hE, hm⟩ := bnd hm
      have K : ∀ (H : Heap) (locs : List Loc) (ls : Array Slot), ST g A s H locs (wP g a w14) → lv_has ls 7 [(0, .ref (a 0)), (1, .int c8), (2, .int c9), (3, .int c10), (4, .int v19), (5, .int v20), (6, .int x13)] → W p l e rX2_fewest s m args below meth c H locs 0 0 Q (F0 m 90 ls []) := by
        intro H locs ls X hl
        clear hE
        refine lv_iinc (v := x13 + 1) (lv' := [(6, .int (x13 + 1)), (0, .ref (a 0)), (1, .int c8), (2, .int c9), (3, .int c10), (4, .int v19), (5, .int v20)]) hx hb dX2_fewest_90 hl (k := 6) rfl rfl (by decide) rfl (fun ls hl => ?_)
        refine lv_goto (tgt := 37) hx hb dX2_fewest_93 (by decide) ?_
        cases sm hm
        exact ih _ _ _ hm2 _ _ _ X (lv_sub hl [1, 2, 3, 4, 5, 6, 0] rfl)
      clear hm
      have hm := hE
      clear hE
      refine lv_icmp_gt (tgt := 90) hx hb dX2_fewest_58 (by decide) (fun hc => ?_) (fun hc => ?_)
      · have hm := ifp hc hm
        cases sm hm
        exact K _ _ _ X (lv_sub hl [0, 1, 2, 3, 4, 5, 6] rfl)
      · have hm := ifn hc hm
        refine lv_aload_n hx hb dX2_fewest_61 rfl (lv_at hl 0 rfl) ?_
        refine kget C X 0 (ci := 2) rfl rfl hinX2 1 (by decide) hf15 (v := .ref (a 2)) rfl dX2_fewest_62 ?_
        refine lv_iload hx hb dX2_fewest_65 (lv_at hl 6 rfl) ?_
        obtain ⟨r21, hcl, hm⟩ := bnd hm
        refine kNF [2] [0, 1, 3] C X (kX5_cell l g (fun _ => a 2) x13 24 (P_counts w14) r21 hcl) (cw_X2_fewest_X5_cell_75 C) rfl (by decide) rfl (by decide) (by decide) (As := [.ref (a 2), .int x13]) rfl hl (rest := []) rfl (Nat.le_of_ble_eq_true rfl) (st2 := [.int r21]) rfl dX2_fewest_67 ⟨Nat.le_of_ble_eq_true rfl, Nat.le_of_ble_eq_true rfl⟩ [0, 1, 3, 2] (by decide) (w3 := wP g a w14) rfl (fun H locs X => ?_)
        clear hcl
        refine lv_iload hx hb dX2_fewest_70 (lv_at hl 5 rfl) ?_
        refine lv_icmp_ge (tgt := 90) hx hb dX2_fewest_72 (by decide) (fun hc => ?_) (fun hc => ?_)
        · have hm := ifp hc hm
          cases sm hm
          exact K _ _ _ X (lv_sub hl [0, 1, 2, 3, 4, 5, 6] rfl)
        · have hm := ifn hc hm
          refine lv_aload_n hx hb dX2_fewest_75 rfl (lv_at hl 0 rfl) ?_
          refine kget C X 0 (ci := 2) rfl rfl hinX2 1 (by decide) hf15 (v := .ref (a 2)) rfl dX2_fewest_76 ?_
          refine lv_iload hx hb dX2_fewest_79 (lv_at hl 6 rfl) ?_
          obtain ⟨r22, hcl, hm⟩ := bnd hm
          refine kNF [2] [0, 1, 3] C X (kX5_cell l g (fun _ => a 2) x13 24 (P_counts w14) r22 hcl) (cw_X2_fewest_X5_cell_75 C) rfl (by decide) rfl (by decide) (by decide) (As := [.ref (a 2), .int x13]) rfl hl (rest := []) rfl (Nat.le_of_ble_eq_true rfl) (st2 := [.int r22]) rfl dX2_fewest_81 ⟨Nat.le_of_ble_eq_true rfl, Nat.le_of_ble_eq_true rfl⟩ [0, 1, 3, 2] (by decide) (w3 := wP g a w14) rfl (fun H locs X => ?_)
          clear hcl
          refine lv_istore (lv' := [(5, .int r22), (0, .ref (a 0)), (1, .int c8), (2, .int c9), (3, .int c10), (4, .int x11), (6, .int x13)]) hx hb dX2_fewest_84 hl (by decide) rfl (fun ls hl => ?_)
          refine lv_iload hx hb dX2_fewest_86 (lv_at hl 6 rfl) ?_
          refine lv_istore (lv' := [(4, .int x13), (5, .int r22), (0, .ref (a 0)), (1, .int c8), (2, .int c9), (3, .int c10), (6, .int x13)]) hx hb dX2_fewest_88 hl (by decide) rfl (fun ls hl => ?_)
          cases sm hm
          exact K _ _ _ X (lv_sub hl [2, 3, 4, 5, 0, 1, 6] rfl)
noncomputable def bX2_fewest_20 (c3 : Int32) (c4 : Int32) : Int32 × PS → Option ((Int32 × PS) ⊕ (PS))
  | (x5, u6) => if c3 ≤ x5 then (some (.inr u6)) else ((lX2_fewest_37 c4 x5 u6 (x5 - 1) 25 0).bind fun y23 => (fX5_cell y23 24 (P_counts u6)).bind fun r24 => (fX5_putCell x5 (r24 + 1) 24 (P_counts u6)).bind fun u25 => (fX5_cell y23 24 (P_masks (P_s_counts u6 u25))).bind fun r26 => (fX5_putCell x5 (r26 ||| (1 <<< (x5 &&& 31))) 24 (P_masks (P_s_counts u6 u25))).bind fun u27 => some (.inl (x5 + 1, P_s_masks (P_s_counts u6 u25) u27)))
noncomputable def lX2_fewest_20 (c3 : Int32) (c4 : Int32) (x5 : Int32) (u6 : PS) : Option (PS) := lp (bX2_fewest_20 c3 c4) (x5, u6)
theorem lX2_fewest_20_eq (c3 : Int32) (c4 : Int32) (x5 : Int32) (u6 : PS) : lX2_fewest_20 c3 c4 x5 u6 = (if c3 ≤ x5 then (some (.inr u6)) else ((lX2_fewest_37 c4 x5 u6 (x5 - 1) 25 0).bind fun y23 => (fX5_cell y23 24 (P_counts u6)).bind fun r24 => (fX5_putCell x5 (r24 + 1) 24 (P_counts u6)).bind fun u25 => (fX5_cell y23 24 (P_masks (P_s_counts u6 u25))).bind fun r26 => (fX5_putCell x5 (r26 ||| (1 <<< (x5 &&& 31))) 24 (P_masks (P_s_counts u6 u25))).bind fun u27 => some (.inl (x5 + 1, P_s_masks (P_s_counts u6 u25) u27)))).bind fun r => Sum.elim (fun z => lX2_fewest_20 c3 c4 z.1 z.2) (fun r => some r) r := lp_eq (bX2_fewest_20 c3 c4) (x5, u6)
set_option maxRecDepth 100000 in
set_option maxHeartbeats 4000000 in
theorem tX2_fewest_20 {p : Program} {l : Launch} {e : Env} {s : State} {m : MethodId} {args : Array Value} {below : List Frame} {meth : Method} {c : Code} {g : kG} {A : Nat → Prop} {Q : State → Prop} (a : Nat → Nat) (C : CT g p s m args meth c RX2 cX2_fewest 7 (some .int) wsX2_fewest A) (c3 : Int32) (c4 : Int32) (u7 : PS) (kk : ∀ (H : Heap) (locs : List Loc) (ls : Array Slot), ST g A s H locs (wP g a u7) → lv_has ls 7 [(0, .ref (a 0)), (1, .int c3)] → W p l e rX2_fewest s m args below meth c H locs 0 0 Q (F0 m 142 ls [])) : ∀ (n : Nat) (x5 : Int32) (u6 : PS), whl (bX2_fewest_20 c3 c4) n (x5, u6) = some u7 → ∀ (H : Heap) (locs : List Loc) (ls : Array Slot), ST g A s H locs (wP g a u6) → lv_has ls 7 [(0, .ref (a 0)), (1, .int c3), (2, .int c4), (3, .int x5)] → W p l e rX2_fewest s m args below meth c H locs 0 0 Q (F0 m 20 ls []) := by
  have hx := C.1
  have hb := C.2.1
  have hinX2 := in_X2_fewest_X2
  have hf15 := C.2.2.2.2.2.1 _ fl_X2_fewest_15
  have hf18 := C.2.2.2.2.2.1 _ fl_X2_fewest_18
  intro n
  induction n with
  | zero =>
    intro x5 u6 hm
    cases hm
  | succ n ih =>
    intro x5 u6 hm H locs ls X hl
    rw [whl] at hm
    obtain ⟨q, hq, hm2⟩ := bnd hm
    clear hm
    have hm := hq
    clear hq
    rw [bX2_fewest_20] at hm
    refine lv_iload_n hx hb dX2_fewest_20 rfl (lv_at hl 3 rfl) ?_
    refine lv_iload_n hx hb dX2_fewest_21 rfl (lv_at hl 1 rfl) ?_
    refine lv_icmp_ge (tgt := 142) hx hb dX2_fewest_22 (by decide) (fun hc => ?_) (fun hc => ?_)
    · have hm := ifp hc hm
      cases sm hm
      cases sm hm2
      exact kk _ _ _ X (lv_sub hl [0, 1] rfl)
    · have hm := ifn hc hm
      refine lv_iload_n hx hb dX2_fewest_25 rfl (lv_at hl 3 rfl) ?_
      refine lv_iconst (v := 1) hx hb dX2_fewest_26 (by decide) ?_
      refine lv_isub hx hb dX2_fewest_27 ?_
      refine lv_istore (lv' := [(4, .int (x5 - 1)), (0, .ref (a 0)), (1, .int c3), (2, .int c4), (3, .int x5)]) hx hb dX2_fewest_28 hl (by decide) rfl (fun ls hl => ?_)
      refine lv_bipush (v := 25) hx hb dX2_fewest_30 (by decide) ?_
      refine lv_istore (lv' := [(5, .int 25), (4, .int (x5 - 1)), (0, .ref (a 0)), (1, .int c3), (2, .int c4), (3, .int x5)]) hx hb dX2_fewest_32 hl (by decide) rfl (fun ls hl => ?_)
      refine lv_iconst (v := 0) hx hb dX2_fewest_34 (by decide) ?_
      refine lv_istore (lv' := [(6, .int 0), (5, .int 25), (4, .int (x5 - 1)), (0, .ref (a 0)), (1, .int c3), (2, .int c4), (3, .int x5)]) hx hb dX2_fewest_35 hl (by decide) rfl (fun ls hl => ?_)
      obtain ⟨y23, hL, hm⟩ := bnd hm
      obtain ⟨nn, hn⟩ := lp_run hL
      refine tX2_fewest_37 a C c3 c4 x5 u6 y23 (fun H locs ls X hl => ?_) nn _ _ _ hn _ _ _ X (lv_sub hl [3, 4, 5, 6, 2, 1, 0] rfl)
      clear hL hn
      refine lv_aload_n hx hb dX2_fewest_96 rfl (lv_at hl 0 rfl) ?_
      refine kget C X 0 (ci := 2) rfl rfl hinX2 1 (by decide) hf15 (v := .ref (a 2)) rfl dX2_fewest_97 ?_
      refine lv_iload_n hx hb dX2_fewest_100 rfl (lv_at hl 3 rfl) ?_
      refine lv_aload_n hx hb dX2_fewest_101 rfl (lv_at hl 0 rfl) ?_
      refine kget C X 0 (ci := 2) rfl rfl hinX2 1 (by decide) hf15 (v := .ref (a 2)) rfl dX2_fewest_102 ?_
      refine lv_iload hx hb dX2_fewest_105 (lv_at hl 4 rfl) ?_
      obtain ⟨r24, hcl, hm⟩ := bnd hm
      refine kNF [2] [0, 1, 3] C X (kX5_cell l g (fun _ => a 2) y23 24 (P_counts u6) r24 hcl) (cw_X2_fewest_X5_cell_75 C) rfl (by decide) rfl (by decide) (by decide) (As := [.ref (a 2), .int y23]) rfl hl (rest := [.int x5, .ref (a 2)]) rfl (Nat.le_of_ble_eq_true rfl) (st2 := [.int r24, .int x5, .ref (a 2)]) rfl dX2_fewest_107 ⟨Nat.le_of_ble_eq_true rfl, Nat.le_of_ble_eq_true rfl⟩ [0, 1, 3, 2] (by decide) (w3 := wP g a u6) rfl (fun H locs X => ?_)
      clear hcl
      refine lv_iconst (v := 1) hx hb dX2_fewest_110 (by decide) ?_
      refine lv_iadd hx hb dX2_fewest_111 ?_
      obtain ⟨u25, hcl, hm⟩ := bnd hm
      refine kNF [2] [0, 1, 3] C X (kX5_putCell l g (fun _ => a 2) x5 (r24 + 1) 24 (P_counts u6) u25 hcl) (cw_X2_fewest_X5_putCell_71 C) rfl (by decide) rfl (by decide) (by decide) (As := [.ref (a 2), .int x5, .int (r24 + 1)]) rfl hl (rest := []) rfl (Nat.le_of_ble_eq_true rfl) (st2 := []) rfl dX2_fewest_112 ⟨Nat.le_of_ble_eq_true rfl, Nat.le_of_ble_eq_true rfl⟩ [0, 1, 3, 2] (by decide) (w3 := wP g a (P_s_counts u6 u25)) rfl (fun H locs X => ?_)
      clear hcl
      refine lv_aload_n hx hb dX2_fewest_115 rfl (lv_at hl 0 rfl) ?_
      refine kget C X 0 (ci := 2) rfl rfl hinX2 2 (by decide) hf18 (v := .ref (a 3)) rfl dX2_fewest_116 ?_
      refine lv_iload_n hx hb dX2_fewest_119 rfl (lv_at hl 3 rfl) ?_
      refine lv_aload_n hx hb dX2_fewest_120 rfl (lv_at hl 0 rfl) ?_
      refine kget C X 0 (ci := 2) rfl rfl hinX2 2 (by decide) hf18 (v := .ref (a 3)) rfl dX2_fewest_121 ?_
      refine lv_iload hx hb dX2_fewest_124 (lv_at hl 4 rfl) ?_
      obtain ⟨r26, hcl, hm⟩ := bnd hm
      refine kNF [3] [0, 1, 2] C X (kX5_cell l g (fun _ => a 3) y23 24 (P_masks (P_s_counts u6 u25)) r26 hcl) (cw_X2_fewest_X5_cell_75 C) rfl (by decide) rfl (by decide) (by decide) (As := [.ref (a 3), .int y23]) rfl hl (rest := [.int x5, .ref (a 3)]) rfl (Nat.le_of_ble_eq_true rfl) (st2 := [.int r26, .int x5, .ref (a 3)]) rfl dX2_fewest_126 ⟨Nat.le_of_ble_eq_true rfl, Nat.le_of_ble_eq_true rfl⟩ [0, 1, 2, 3] (by decide) (w3 := wP g a (P_s_counts u6 u25)) rfl (fun H locs X => ?_)
      clear hcl
      refine lv_iconst (v := 1) hx hb dX2_fewest_129 (by decide) ?_
      refine lv_iload_n hx hb dX2_fewest_130 rfl (lv_at hl 3 rfl) ?_
      refine lv_ishl hx hb dX2_fewest_131 ?_
      refine lv_ior hx hb dX2_fewest_132 ?_
      obtain ⟨u27, hcl, hm⟩ := bnd hm
      refine kNF [3] [0, 1, 2] C X (kX5_putCell l g (fun _ => a 3) x5 (r26 ||| (1 <<< (x5 &&& 31))) 24 (P_masks (P_s_counts u6 u25)) u27 hcl) (cw_X2_fewest_X5_putCell_71 C) rfl (by decide) rfl (by decide) (by decide) (As := [.ref (a 3), .int x5, .int (r26 ||| (1 <<< (x5 &&& 31)))]) rfl hl (rest := []) rfl (Nat.le_of_ble_eq_true rfl) (st2 := []) rfl dX2_fewest_133 ⟨Nat.le_of_ble_eq_true rfl, Nat.le_of_ble_eq_true rfl⟩ [0, 1, 2, 3] (by decide) (w3 := wP g a (P_s_masks (P_s_counts u6 u25) u27)) rfl (fun H locs X => ?_)
      clear hcl
      refine lv_iinc (v := x5 + 1) (lv' := [(3, .int (x5 + 1)), (0, .ref (a 0)), (1, .int c3), (2, .int c4), (4, .int y23)]) hx hb dX2_fewest_136 hl (k := 3) rfl rfl (by decide) rfl (fun ls hl => ?_)
      refine lv_goto (tgt := 20) hx hb dX2_fewest_139 (by decide) ?_
      cases sm hm
      exact ih _ _ hm2 _ _ _ X (lv_sub hl [1, 2, 3, 0] rfl)
noncomputable def fX2_fewest (p1 : Int32) (p2 : Int32) (u : PS) : Option (Int32 × PS) := (fX5_putCell 0 1 24 (P_counts u)).bind fun u1 => (fX5_putCell 0 1 24 (P_masks (P_s_counts u u1))).bind fun u2 => (lX2_fewest_20 p1 p2 1 (P_s_masks (P_s_counts u u1) u2)).bind fun u28 => (fX5_cell (p1 - 1) 24 (P_masks u28)).bind fun r29 => some (r29, u28)
set_option maxRecDepth 100000 in
set_option maxHeartbeats 4000000 in
theorem kX2_fewest (l : Launch) (g : kG) (a : Nat → Nat) (p1 : Int32) (p2 : Int32) (u : PS) (o1 : Int32) (o2 : PS) (hm : fX2_fewest p1 p2 u = some (o1, o2)) : KM l yX2_fewest wsX2_fewest rX2_fewest g [.ref (a 0), .int p1, .int p2] (wP g a u) (some (.int o1)) (wP g a o2) 0 0 := by
  refine KM.of (nL := 7) (by decide) rfl (Nat.le_of_ble_eq_true rfl) ?_
  intro p e s m args below meth c A ls C X hl
  have C : CT g p s m args meth c RX2 cX2_fewest 7 (some .int) wsX2_fewest A := C
  have hx := C.1
  have hb := C.2.1
  have hl : lv_has ls 7 [(0, .ref (a 0)), (1, .int p1), (2, .int p2)] := hl
  have hinX2 := in_X2_fewest_X2
  have hf15 := C.2.2.2.2.2.1 _ fl_X2_fewest_15
  have hf18 := C.2.2.2.2.2.1 _ fl_X2_fewest_18
  rw [fX2_fewest] at hm
  refine lv_aload_n hx hb dX2_fewest_0 rfl (lv_at hl 0 rfl) ?_
  refine kget C X 0 (ci := 2) rfl rfl hinX2 1 (by decide) hf15 (v := .ref (a 2)) rfl dX2_fewest_1 ?_
  refine lv_iconst (v := 0) hx hb dX2_fewest_4 (by decide) ?_
  refine lv_iconst (v := 1) hx hb dX2_fewest_5 (by decide) ?_
  obtain ⟨u1, hcl, hm⟩ := bnd hm
  refine kNF [2] [0, 1, 3] C X (kX5_putCell l g (fun _ => a 2) 0 1 24 (P_counts u) u1 hcl) (cw_X2_fewest_X5_putCell_71 C) rfl (by decide) rfl (by decide) (by decide) (As := [.ref (a 2), .int 0, .int 1]) rfl hl (rest := []) rfl (Nat.le_of_ble_eq_true rfl) (st2 := []) rfl dX2_fewest_6 ⟨Nat.le_of_ble_eq_true rfl, Nat.le_of_ble_eq_true rfl⟩ [0, 1, 3, 2] (by decide) (w3 := wP g a (P_s_counts u u1)) rfl (fun H locs X => ?_)
  clear hcl
  refine lv_aload_n hx hb dX2_fewest_9 rfl (lv_at hl 0 rfl) ?_
  refine kget C X 0 (ci := 2) rfl rfl hinX2 2 (by decide) hf18 (v := .ref (a 3)) rfl dX2_fewest_10 ?_
  refine lv_iconst (v := 0) hx hb dX2_fewest_13 (by decide) ?_
  refine lv_iconst (v := 1) hx hb dX2_fewest_14 (by decide) ?_
  obtain ⟨u2, hcl, hm⟩ := bnd hm
  refine kNF [3] [0, 1, 2] C X (kX5_putCell l g (fun _ => a 3) 0 1 24 (P_masks (P_s_counts u u1)) u2 hcl) (cw_X2_fewest_X5_putCell_71 C) rfl (by decide) rfl (by decide) (by decide) (As := [.ref (a 3), .int 0, .int 1]) rfl hl (rest := []) rfl (Nat.le_of_ble_eq_true rfl) (st2 := []) rfl dX2_fewest_15 ⟨Nat.le_of_ble_eq_true rfl, Nat.le_of_ble_eq_true rfl⟩ [0, 1, 2, 3] (by decide) (w3 := wP g a (P_s_masks (P_s_counts u u1) u2)) rfl (fun H locs X => ?_)
  clear hcl
  refine lv_iconst (v := 1) hx hb dX2_fewest_18 (by decide) ?_
  refine lv_istore_n (lv' := [(3, .int 1), (0, .ref (a 0)), (1, .int p1), (2, .int p2)]) hx hb dX2_fewest_19 rfl hl (by decide) rfl (fun ls hl => ?_)
  obtain ⟨u28, hL, hm⟩ := bnd hm
  obtain ⟨nn, hn⟩ := lp_run hL
  refine tX2_fewest_20 a C p1 p2 u28 (fun H locs ls X hl => ?_) nn _ _ hn _ _ _ X (lv_sub hl [1, 2, 3, 0] rfl)
  clear hL hn
  refine lv_aload_n hx hb dX2_fewest_142 rfl (lv_at hl 0 rfl) ?_
  refine kget C X 0 (ci := 2) rfl rfl hinX2 2 (by decide) hf18 (v := .ref (a 3)) rfl dX2_fewest_143 ?_
  refine lv_iload_n hx hb dX2_fewest_146 rfl (lv_at hl 1 rfl) ?_
  refine lv_iconst (v := 1) hx hb dX2_fewest_147 (by decide) ?_
  refine lv_isub hx hb dX2_fewest_148 ?_
  obtain ⟨r29, hcl, hm⟩ := bnd hm
  refine kNF [3] [0, 1, 2] C X (kX5_cell l g (fun _ => a 3) (p1 - 1) 24 (P_masks u28) r29 hcl) (cw_X2_fewest_X5_cell_75 C) rfl (by decide) rfl (by decide) (by decide) (As := [.ref (a 3), .int (p1 - 1)]) rfl hl (rest := []) rfl (Nat.le_of_ble_eq_true rfl) (st2 := [.int r29]) rfl dX2_fewest_149 ⟨Nat.le_of_ble_eq_true rfl, Nat.le_of_ble_eq_true rfl⟩ [0, 1, 2, 3] (by decide) (w3 := wP g a u28) rfl (fun H locs X => ?_)
  clear hcl
  cases sm hm
  exact kiret C X dX2_fewest_152
-- X2 BrushStrokes$Simplifier.keptPoints(LBrushStrokes$Stroke;III)I
abbrev rX2_keptPoints : Room := { frames := 5, cells := 0, slots := 0, locals := 140 }
theorem cw_X2_keptPoints_X2_measure_25 {p : Program} {s : State} {m : MethodId} {args : Array Value} {meth : Method} {c : Code} {g : kG} {A : Nat → Prop} (C : CT g p s m args meth c RX2 cX2_keptPoints 5 (some .int) wsX2_keptPoints A) : CallW rX2_keptPoints s args RX2 RX2 25 yX2_measure cX2_measure 7 none wsX2_measure rX2_measure 0 0 2 := cwV 2 C.2.2.2.2.2.1 gX2_keptPoints_X2_measure rfl rfl rfl (by decide +kernel) ⟨Nat.le_of_ble_eq_true rfl, Nat.le_of_ble_eq_true rfl⟩
theorem cw_X2_keptPoints_X3_size_29 {p : Program} {s : State} {m : MethodId} {args : Array Value} {meth : Method} {c : Code} {g : kG} {A : Nat → Prop} (C : CT g p s m args meth c RX2 cX2_keptPoints 5 (some .int) wsX2_keptPoints A) : CallW rX2_keptPoints s args RX2 RX3 29 yX3_size cX3_size 1 (some .int) wsX3_size rX3_size 0 0 0 := cwV 0 C.2.2.2.2.2.1 gX2_keptPoints_X3_size rfl rfl rfl (by decide +kernel) ⟨Nat.le_of_ble_eq_true rfl, Nat.le_of_ble_eq_true rfl⟩
theorem cw_X2_keptPoints_X2_fewest_35 {p : Program} {s : State} {m : MethodId} {args : Array Value} {meth : Method} {c : Code} {g : kG} {A : Nat → Prop} (C : CT g p s m args meth c RX2 cX2_keptPoints 5 (some .int) wsX2_keptPoints A) : CallW rX2_keptPoints s args RX2 RX2 35 yX2_fewest cX2_fewest 7 (some .int) wsX2_fewest rX2_fewest 0 0 2 := cwV 2 C.2.2.2.2.2.1 gX2_keptPoints_X2_fewest rfl rfl rfl (by decide +kernel) ⟨Nat.le_of_ble_eq_true rfl, Nat.le_of_ble_eq_true rfl⟩
theorem cw_X2_keptPoints_X2_split_21 {p : Program} {s : State} {m : MethodId} {args : Array Value} {meth : Method} {c : Code} {g : kG} {A : Nat → Prop} (C : CT g p s m args meth c RX2 cX2_keptPoints 5 (some .int) wsX2_keptPoints A) : CallW rX2_keptPoints s args RX2 RX2 21 yX2_split cX2_split 10 (some .int) wsX2_split rX2_split 0 0 3 := cwV 3 C.2.2.2.2.2.1 gX2_keptPoints_X2_split rfl rfl rfl (by decide +kernel) ⟨Nat.le_of_ble_eq_true rfl, Nat.le_of_ble_eq_true rfl⟩
noncomputable def fX2_keptPoints (p1 : Int32) (p2 : Int32) (p3 : Int32) (u : PS) (w : SS) : Option (Int32 × PS) := if p3 = 0 then ((fX2_split p1 p2 u w).bind fun r5 => some (r5, u)) else ((fX2_measure p1 u w).bind fun u1 => (fX3_size w).bind fun r2 => (fX2_fewest r2 p2 u1).bind fun (r3, u4) => some (r3, u4))
set_option maxRecDepth 100000 in
set_option maxHeartbeats 4000000 in
theorem kX2_keptPoints (l : Launch) (g : kG) (a : Nat → Nat) (b : Nat → Nat) (p1 : Int32) (p2 : Int32) (p3 : Int32) (u : PS) (w : SS) (o1 : Int32) (o2 : PS) (hm : fX2_keptPoints p1 p2 p3 u w = some (o1, o2)) : KM l yX2_keptPoints wsX2_keptPoints rX2_keptPoints g [.ref (a 0), .ref (b 0), .int p1, .int p2, .int p3] (wP g a u ++ wS g b w) (some (.int o1)) (wP g a o2 ++ wS g b w) 0 0 := by
  refine KM.of (nL := 5) (by decide) rfl (Nat.le_of_ble_eq_true rfl) ?_
  intro p e s m args below meth c A ls C X hl
  have C : CT g p s m args meth c RX2 cX2_keptPoints 5 (some .int) wsX2_keptPoints A := C
  have hx := C.1
  have hb := C.2.1
  have hl : lv_has ls 5 [(0, .ref (a 0)), (1, .ref (b 0)), (2, .int p1), (3, .int p2), (4, .int p3)] := hl
  rw [fX2_keptPoints] at hm
  refine lv_iload hx hb dX2_keptPoints_0 (lv_at hl 4 rfl) ?_
  refine lv_if_ne (tgt := 13) hx hb dX2_keptPoints_2 (by decide) (fun hc => ?_) (fun hc => ?_)
  · have hm := ifn hc hm
    refine lv_aload_n hx hb dX2_keptPoints_13 rfl (lv_at hl 0 rfl) ?_
    refine lv_aload_n hx hb dX2_keptPoints_14 rfl (lv_at hl 1 rfl) ?_
    refine lv_iload_n hx hb dX2_keptPoints_15 rfl (lv_at hl 2 rfl) ?_
    obtain ⟨u1, hcl, hm⟩ := bnd hm
    refine kVW C X (kX2_measure l g a b p1 u w u1 hcl) (cw_X2_keptPoints_X2_measure_25 C) 0 (ci := 2) rfl rfl (As := [.ref (b 0), .int p1]) rfl hl (rest := []) rfl (Nat.le_of_ble_eq_true rfl) (st2 := []) rfl dX2_keptPoints_16 ⟨Nat.le_of_ble_eq_true rfl, Nat.le_of_ble_eq_true rfl⟩ (fun H locs X => ?_)
    clear hcl
    refine lv_aload_n hx hb dX2_keptPoints_19 rfl (lv_at hl 0 rfl) ?_
    refine lv_aload_n hx hb dX2_keptPoints_20 rfl (lv_at hl 1 rfl) ?_
    obtain ⟨r2, hcl, hm⟩ := bnd hm
    refine kVF [4, 5] [0, 1, 2, 3] C X (kX3_size l g b w r2 hcl) (cw_X2_keptPoints_X3_size_29 C) 4 (ci := 3) rfl rfl rfl (by decide) rfl (by decide) (by decide) (As := []) rfl hl (rest := [.ref (a 0)]) rfl (Nat.le_of_ble_eq_true rfl) (st2 := [.int r2, .ref (a 0)]) rfl dX2_keptPoints_21 ⟨Nat.le_of_ble_eq_true rfl, Nat.le_of_ble_eq_true rfl⟩ [0, 1, 2, 3, 4, 5] (by decide) (w3 := wP g a u1 ++ wS g b w) rfl (fun H locs X => ?_)
    clear hcl
    refine lv_iload_n hx hb dX2_keptPoints_24 rfl (lv_at hl 3 rfl) ?_
    obtain ⟨⟨r3, u4⟩, hcl, hm⟩ := bnd hm
    refine kVF [0, 1, 2, 3] [4, 5] C X (kX2_fewest l g a r2 p2 u1 r3 u4 hcl) (cw_X2_keptPoints_X2_fewest_35 C) 0 (ci := 2) rfl rfl rfl (by decide) rfl (by decide) (by decide) (As := [.int r2, .int p2]) rfl hl (rest := []) rfl (Nat.le_of_ble_eq_true rfl) (st2 := [.int r3]) rfl dX2_keptPoints_25 ⟨Nat.le_of_ble_eq_true rfl, Nat.le_of_ble_eq_true rfl⟩ [2, 3, 4, 5, 0, 1] (by decide) (w3 := wP g a u4 ++ wS g b w) rfl (fun H locs X => ?_)
    clear hcl
    cases sm hm
    exact kiret C X dX2_keptPoints_28
  · have hm := ifp hc hm
    refine lv_aload_n hx hb dX2_keptPoints_5 rfl (lv_at hl 0 rfl) ?_
    refine lv_aload_n hx hb dX2_keptPoints_6 rfl (lv_at hl 1 rfl) ?_
    refine lv_iload_n hx hb dX2_keptPoints_7 rfl (lv_at hl 2 rfl) ?_
    refine lv_iload_n hx hb dX2_keptPoints_8 rfl (lv_at hl 3 rfl) ?_
    obtain ⟨r5, hcl, hm⟩ := bnd hm
    refine kVW C X (kX2_split l g a b p1 p2 u w r5 hcl) (cw_X2_keptPoints_X2_split_21 C) 0 (ci := 2) rfl rfl (As := [.ref (b 0), .int p1, .int p2]) rfl hl (rest := []) rfl (Nat.le_of_ble_eq_true rfl) (st2 := [.int r5]) rfl dX2_keptPoints_9 ⟨Nat.le_of_ble_eq_true rfl, Nat.le_of_ble_eq_true rfl⟩ (fun H locs X => ?_)
    clear hcl
    cases sm hm
    exact kiret C X dX2_keptPoints_12
-- X2 BrushStrokes$Simplifier.leastBoundFor(LBrushStrokes$Stroke;III)I
abbrev rX2_leastBoundFor : Room := { frames := 5, cells := 0, slots := 0, locals := 140 }
theorem cw_X2_leastBoundFor_X3_size_29 {p : Program} {s : State} {m : MethodId} {args : Array Value} {meth : Method} {c : Code} {g : kG} {A : Nat → Prop} (C : CT g p s m args meth c RX2 cX2_leastBoundFor 7 (some .int) wsX2_leastBoundFor A) : CallW rX2_leastBoundFor s args RX2 RX3 29 yX3_size cX3_size 1 (some .int) wsX3_size rX3_size 0 0 0 := cwV 0 C.2.2.2.2.2.1 gX2_leastBoundFor_X3_size rfl rfl rfl (by decide +kernel) ⟨Nat.le_of_ble_eq_true rfl, Nat.le_of_ble_eq_true rfl⟩
theorem cw_X2_leastBoundFor_X2_fewest_35 {p : Program} {s : State} {m : MethodId} {args : Array Value} {meth : Method} {c : Code} {g : kG} {A : Nat → Prop} (C : CT g p s m args meth c RX2 cX2_leastBoundFor 7 (some .int) wsX2_leastBoundFor A) : CallW rX2_leastBoundFor s args RX2 RX2 35 yX2_fewest cX2_fewest 7 (some .int) wsX2_fewest rX2_fewest 0 0 2 := cwV 2 C.2.2.2.2.2.1 gX2_leastBoundFor_X2_fewest rfl rfl rfl (by decide +kernel) ⟨Nat.le_of_ble_eq_true rfl, Nat.le_of_ble_eq_true rfl⟩
theorem cw_X2_leastBoundFor_X2_split_21 {p : Program} {s : State} {m : MethodId} {args : Array Value} {meth : Method} {c : Code} {g : kG} {A : Nat → Prop} (C : CT g p s m args meth c RX2 cX2_leastBoundFor 7 (some .int) wsX2_leastBoundFor A) : CallW rX2_leastBoundFor s args RX2 RX2 21 yX2_split cX2_split 10 (some .int) wsX2_split rX2_split 0 0 3 := cwV 3 C.2.2.2.2.2.1 gX2_leastBoundFor_X2_split rfl rfl rfl (by decide +kernel) ⟨Nat.le_of_ble_eq_true rfl, Nat.le_of_ble_eq_true rfl⟩
theorem cw_X2_leastBoundFor_J6_bitCount_0f7a4_39 {p : Program} {s : State} {m : MethodId} {args : Array Value} {meth : Method} {c : Code} {g : kG} {A : Nat → Prop} (C : CT g p s m args meth c RX2 cX2_leastBoundFor 7 (some .int) wsX2_leastBoundFor A) : CallB rX2_leastBoundFor s args RX2 39 yJ6_bitCount_0f7a4 cJ6_bitCount_0f7a4 1 (some .int) wsJ6_bitCount_0f7a4 rJ6_bitCount_0f7a4 0 0 1 ∧ (Cond.static yJ6_bitCount_0f7a4).before args s = true := va_cwS 1 C.2.2.2.2.2.1 gX2_leastBoundFor_J6_bitCount_0f7a4 rfl rfl rfl (by decide +kernel) ⟨Nat.le_of_ble_eq_true rfl, Nat.le_of_ble_eq_true rfl⟩
theorem cw_X2_leastBoundFor_X2_measure_25 {p : Program} {s : State} {m : MethodId} {args : Array Value} {meth : Method} {c : Code} {g : kG} {A : Nat → Prop} (C : CT g p s m args meth c RX2 cX2_leastBoundFor 7 (some .int) wsX2_leastBoundFor A) : CallW rX2_leastBoundFor s args RX2 RX2 25 yX2_measure cX2_measure 7 none wsX2_measure rX2_measure 0 0 2 := cwV 2 C.2.2.2.2.2.1 gX2_leastBoundFor_X2_measure rfl rfl rfl (by decide +kernel) ⟨Nat.le_of_ble_eq_true rfl, Nat.le_of_ble_eq_true rfl⟩
noncomputable def bX2_leastBoundFor_15 (c4 : Int32) (c5 : Int32) (c6 : Int32) (w9 : SS) : Int32 × PS → Option ((Int32 × PS) ⊕ (Int32 × PS))
  | (x7, u8) => if 50 < x7 then (some (.inr ((-1), u8))) else (((if c6 = 1 then ((fX3_size w9).bind fun r17 => (fX2_fewest r17 x7 u8).bind fun (r18, u19) => some (r18, u19)) else ((fX2_split c4 x7 u8 w9).bind fun r16 => some (r16, u8))) : Option (Int32 × PS)).bind fun (v14, u15) => (fJ6_bitCount_0f7a4 v14).bind fun r20 => if c5 < r20 then (some (.inl (x7 + 1, u15))) else (some (.inr (x7, u15))))
noncomputable def lX2_leastBoundFor_15 (c4 : Int32) (c5 : Int32) (c6 : Int32) (w9 : SS) (x7 : Int32) (u8 : PS) : Option (Int32 × PS) := lp (bX2_leastBoundFor_15 c4 c5 c6 w9) (x7, u8)
theorem lX2_leastBoundFor_15_eq (c4 : Int32) (c5 : Int32) (c6 : Int32) (w9 : SS) (x7 : Int32) (u8 : PS) : lX2_leastBoundFor_15 c4 c5 c6 w9 x7 u8 = (if 50 < x7 then (some (.inr ((-1), u8))) else (((if c6 = 1 then ((fX3_size w9).bind fun r17 => (fX2_fewest r17 x7 u8).bind fun (r18, u19) => some (r18, u19)) else ((fX2_split c4 x7 u8 w9).bind fun r16 => some (r16, u8))) : Option (Int32 × PS)).bind fun (v14, u15) => (fJ6_bitCount_0f7a4 v14).bind fun r20 => if c5 < r20 then (some (.inl (x7 + 1, u15))) else (some (.inr (x7, u15))))).bind fun r => Sum.elim (fun z => lX2_leastBoundFor_15 c4 c5 c6 w9 z.1 z.2) (fun r => some r) r := lp_eq (bX2_leastBoundFor_15 c4 c5 c6 w9) (x7, u8)
set_option maxRecDepth 100000 in
set_option maxHeartbeats 4000000 in
theorem tX2_leastBoundFor_15 {p : Program} {l : Launch} {e : Env} {s : State} {m : MethodId} {args : Array Value} {below : List Frame} {meth : Method} {c : Code} {g : kG} {A : Nat → Prop} (a : Nat → Nat) (b : Nat → Nat) (C : CT g p s m args meth c RX2 cX2_leastBoundFor 7 (some .int) wsX2_leastBoundFor A) (c4 : Int32) (c5 : Int32) (c6 : Int32) (w9 : SS) (o1 : Int32) (o2 : PS) : ∀ (n : Nat) (x7 : Int32) (u8 : PS), whl (bX2_leastBoundFor_15 c4 c5 c6 w9) n (x7, u8) = some (o1, o2) → ∀ (H : Heap) (locs : List Loc) (ls : Array Slot), ST g A s H locs (wP g a u8 ++ wS g b w9) → lv_has ls 7 [(0, .ref (a 0)), (1, .ref (b 0)), (2, .int c4), (3, .int c5), (4, .int c6), (5, .int x7)] → W p l e rX2_leastBoundFor s m args below meth c H locs 0 0 (kEnd g below args s (some (.int o1)) (wP g a o2 ++ wS g b w9) A 0 0) (F0 m 15 ls []) := by
  have hx := C.1
  have hb := C.2.1
  intro n
  induction n with
  | zero =>
    intro x7 u8 hm
    cases hm
  | succ n ih =>
    intro x7 u8 hm H locs ls X hl
    rw [whl] at hm
    obtain ⟨q, hq, hm2⟩ := bnd hm
    clear hm
    have hm := hq
    clear hq
    rw [bX2_leastBoundFor_15] at hm
    refine lv_iload hx hb dX2_leastBoundFor_15 (lv_at hl 5 rfl) ?_
    refine lv_bipush (v := 50) hx hb dX2_leastBoundFor_17 (by decide) ?_
    refine lv_icmp_gt (tgt := 69) hx hb dX2_leastBoundFor_19 (by decide) (fun hc => ?_) (fun hc => ?_)
    · have hm := ifp hc hm
      refine lv_iconst (v := (-1)) hx hb dX2_leastBoundFor_69 (by decide) ?_
      cases sm hm
      cases sm hm2
      exact kiret C X dX2_leastBoundFor_70
    · have hm := ifn hc hm
      refine lv_iload hx hb dX2_leastBoundFor_22 (lv_at hl 4 rfl) ?_
      refine lv_iconst (v := 1) hx hb dX2_leastBoundFor_24 (by decide) ?_
      obtain ⟨⟨v14, u15⟩, hE, hm⟩ := bnd hm
      have K : ∀ (H : Heap) (locs : List Loc) (ls : Array Slot), ST g A s H locs (wP g a u15 ++ wS g b w9) → lv_has ls 7 [(0, .ref (a 0)), (1, .ref (b 0)), (2, .int c4), (3, .int c5), (4, .int c6), (5, .int x7)] → W p l e rX2_leastBoundFor s m args below meth c H locs 0 0 (kEnd g below args s (some (.int o1)) (wP g a o2 ++ wS g b w9) A 0 0) (F0 m 49 ls [.int v14]) := by
        intro H locs ls X hl
        clear hE
        refine lv_istore (lv' := [(6, .int v14), (0, .ref (a 0)), (1, .ref (b 0)), (2, .int c4), (3, .int c5), (4, .int c6), (5, .int x7)]) hx hb dX2_leastBoundFor_49 hl (by decide) rfl (fun ls hl => ?_)
        refine lv_iload hx hb dX2_leastBoundFor_51 (lv_at hl 0 rfl) ?_
        obtain ⟨r20, hcl, hm⟩ := bnd hm
        refine kS0 C X (kJ6_bitCount_0f7a4 l g v14 r20 hcl) (cw_X2_leastBoundFor_J6_bitCount_0f7a4_39 C) (As := [.int v14]) rfl hl (rest := []) rfl (Nat.le_of_ble_eq_true rfl) (st2 := [.int r20]) rfl dX2_leastBoundFor_53 ⟨Nat.le_of_ble_eq_true rfl, Nat.le_of_ble_eq_true rfl⟩ (fun H locs X => ?_)
        clear hcl
        refine lv_iload_n hx hb dX2_leastBoundFor_56 rfl (lv_at hl 4 rfl) ?_
        refine lv_icmp_gt (tgt := 63) hx hb dX2_leastBoundFor_57 (by decide) (fun hc => ?_) (fun hc => ?_)
        · have hm := ifp hc hm
          refine lv_iinc (v := x7 + 1) (lv' := [(5, .int (x7 + 1)), (6, .int v14), (0, .ref (a 0)), (1, .ref (b 0)), (2, .int c4), (3, .int c5), (4, .int c6)]) hx hb dX2_leastBoundFor_63 hl (k := 6) rfl rfl (by decide) rfl (fun ls hl => ?_)
          refine lv_goto (tgt := 15) hx hb dX2_leastBoundFor_66 (by decide) ?_
          cases sm hm
          exact ih _ _ hm2 _ _ _ X (lv_sub hl [2, 3, 4, 5, 6, 0] rfl)
        · have hm := ifn hc hm
          refine lv_iload hx hb dX2_leastBoundFor_60 (lv_at hl 6 rfl) ?_
          cases sm hm
          cases sm hm2
          exact kiret C X dX2_leastBoundFor_62
      clear hm
      have hm := hE
      clear hE
      refine lv_icmp_ne (tgt := 41) hx hb dX2_leastBoundFor_25 (by decide) (fun hc => ?_) (fun hc => ?_)
      · have hm := ifn hc hm
        refine lv_aload_n hx hb dX2_leastBoundFor_41 rfl (lv_at hl 0 rfl) ?_
        refine lv_aload_n hx hb dX2_leastBoundFor_42 rfl (lv_at hl 1 rfl) ?_
        refine lv_iload_n hx hb dX2_leastBoundFor_43 rfl (lv_at hl 2 rfl) ?_
        refine lv_iload hx hb dX2_leastBoundFor_44 (lv_at hl 5 rfl) ?_
        obtain ⟨r16, hcl, hm⟩ := bnd hm
        refine kVW C X (kX2_split l g a b c4 x7 u8 w9 r16 hcl) (cw_X2_leastBoundFor_X2_split_21 C) 0 (ci := 2) rfl rfl (As := [.ref (b 0), .int c4, .int x7]) rfl hl (rest := []) rfl (Nat.le_of_ble_eq_true rfl) (st2 := [.int r16]) rfl dX2_leastBoundFor_46 ⟨Nat.le_of_ble_eq_true rfl, Nat.le_of_ble_eq_true rfl⟩ (fun H locs X => ?_)
        clear hcl
        cases sm hm
        exact K _ _ _ X (lv_sub hl [0, 1, 2, 3, 4, 5] rfl)
      · have hm := ifp hc hm
        refine lv_aload_n hx hb dX2_leastBoundFor_28 rfl (lv_at hl 0 rfl) ?_
        refine lv_aload_n hx hb dX2_leastBoundFor_29 rfl (lv_at hl 1 rfl) ?_
        obtain ⟨r17, hcl, hm⟩ := bnd hm
        refine kVF [4, 5] [0, 1, 2, 3] C X (kX3_size l g b w9 r17 hcl) (cw_X2_leastBoundFor_X3_size_29 C) 4 (ci := 3) rfl rfl rfl (by decide) rfl (by decide) (by decide) (As := []) rfl hl (rest := [.ref (a 0)]) rfl (Nat.le_of_ble_eq_true rfl) (st2 := [.int r17, .ref (a 0)]) rfl dX2_leastBoundFor_30 ⟨Nat.le_of_ble_eq_true rfl, Nat.le_of_ble_eq_true rfl⟩ [0, 1, 2, 3, 4, 5] (by decide) (w3 := wP g a u8 ++ wS g b w9) rfl (fun H locs X => ?_)
        clear hcl
        refine lv_iload hx hb dX2_leastBoundFor_33 (lv_at hl 5 rfl) ?_
        obtain ⟨⟨r18, u19⟩, hcl, hm⟩ := bnd hm
        refine kVF [0, 1, 2, 3] [4, 5] C X (kX2_fewest l g a r17 x7 u8 r18 u19 hcl) (cw_X2_leastBoundFor_X2_fewest_35 C) 0 (ci := 2) rfl rfl rfl (by decide) rfl (by decide) (by decide) (As := [.int r17, .int x7]) rfl hl (rest := []) rfl (Nat.le_of_ble_eq_true rfl) (st2 := [.int r18]) rfl dX2_leastBoundFor_35 ⟨Nat.le_of_ble_eq_true rfl, Nat.le_of_ble_eq_true rfl⟩ [2, 3, 4, 5, 0, 1] (by decide) (w3 := wP g a u19 ++ wS g b w9) rfl (fun H locs X => ?_)
        clear hcl
        refine lv_goto (tgt := 49) hx hb dX2_leastBoundFor_38 (by decide) ?_
        cases sm hm
        exact K _ _ _ X (lv_sub hl [0, 1, 2, 3, 4, 5] rfl)
noncomputable def fX2_leastBoundFor (p1 : Int32) (p2 : Int32) (p3 : Int32) (u : PS) (w : SS) : Option (Int32 × PS) := ((if p3 = 1 then ((fX2_measure p1 u w).bind fun u3 => some u3) else (some u)) : Option (PS)).bind fun u2 => lX2_leastBoundFor_15 p1 p2 p3 w 0 u2
set_option maxRecDepth 100000 in
set_option maxHeartbeats 4000000 in
theorem kX2_leastBoundFor (l : Launch) (g : kG) (a : Nat → Nat) (b : Nat → Nat) (p1 : Int32) (p2 : Int32) (p3 : Int32) (u : PS) (w : SS) (o1 : Int32) (o2 : PS) (hm : fX2_leastBoundFor p1 p2 p3 u w = some (o1, o2)) : KM l yX2_leastBoundFor wsX2_leastBoundFor rX2_leastBoundFor g [.ref (a 0), .ref (b 0), .int p1, .int p2, .int p3] (wP g a u ++ wS g b w) (some (.int o1)) (wP g a o2 ++ wS g b w) 0 0 := by
  refine KM.of (nL := 7) (by decide) rfl (Nat.le_of_ble_eq_true rfl) ?_
  intro p e s m args below meth c A ls C X hl
  have C : CT g p s m args meth c RX2 cX2_leastBoundFor 7 (some .int) wsX2_leastBoundFor A := C
  have hx := C.1
  have hb := C.2.1
  have hl : lv_has ls 7 [(0, .ref (a 0)), (1, .ref (b 0)), (2, .int p1), (3, .int p2), (4, .int p3)] := hl
  rw [fX2_leastBoundFor] at hm
  refine lv_iload hx hb dX2_leastBoundFor_0 (lv_at hl 4 rfl) ?_
  refine lv_iconst (v := 1) hx hb dX2_leastBoundFor_2 (by decide) ?_
  obtain ⟨u2, hE, hm⟩ := bnd hm
  have K : ∀ (H : Heap) (locs : List Loc) (ls : Array Slot), ST g A s H locs (wP g a u2 ++ wS g b w) → lv_has ls 7 [(0, .ref (a 0)), (1, .ref (b 0)), (2, .int p1), (3, .int p2), (4, .int p3)] → W p l e rX2_leastBoundFor s m args below meth c H locs 0 0 (kEnd g below args s (some (.int o1)) (wP g a o2 ++ wS g b w) A 0 0) (F0 m 12 ls []) := by
    intro H locs ls X hl
    clear hE
    refine lv_iconst (v := 0) hx hb dX2_leastBoundFor_12 (by decide) ?_
    refine lv_istore (lv' := [(5, .int 0), (0, .ref (a 0)), (1, .ref (b 0)), (2, .int p1), (3, .int p2), (4, .int p3)]) hx hb dX2_leastBoundFor_13 hl (by decide) rfl (fun ls hl => ?_)
    obtain ⟨nn, hn⟩ := lp_run hm
    exact tX2_leastBoundFor_15 a b C p1 p2 p3 w _ _ nn _ _ hn _ _ _ X (lv_sub hl [1, 2, 3, 4, 5, 0] rfl)
  clear hm
  have hm := hE
  clear hE
  refine lv_icmp_ne (tgt := 12) hx hb dX2_leastBoundFor_3 (by decide) (fun hc => ?_) (fun hc => ?_)
  · have hm := ifn hc hm
    cases sm hm
    exact K _ _ _ X (lv_sub hl [0, 1, 2, 3, 4] rfl)
  · have hm := ifp hc hm
    refine lv_aload_n hx hb dX2_leastBoundFor_6 rfl (lv_at hl 0 rfl) ?_
    refine lv_aload_n hx hb dX2_leastBoundFor_7 rfl (lv_at hl 1 rfl) ?_
    refine lv_iload_n hx hb dX2_leastBoundFor_8 rfl (lv_at hl 2 rfl) ?_
    obtain ⟨u3, hcl, hm⟩ := bnd hm
    refine kVW C X (kX2_measure l g a b p1 u w u3 hcl) (cw_X2_leastBoundFor_X2_measure_25 C) 0 (ci := 2) rfl rfl (As := [.ref (b 0), .int p1]) rfl hl (rest := []) rfl (Nat.le_of_ble_eq_true rfl) (st2 := []) rfl dX2_leastBoundFor_9 ⟨Nat.le_of_ble_eq_true rfl, Nat.le_of_ble_eq_true rfl⟩ (fun H locs X => ?_)
    clear hcl
    cases sm hm
    exact K _ _ _ X (lv_sub hl [0, 1, 2, 3, 4] rfl)
