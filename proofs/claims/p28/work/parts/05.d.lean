-- X3 BrushStrokes$Stroke.keptLength()I
abbrev rX3_keptLength : Room := { frames := 3, cells := 0, slots := 0, locals := 64 }
theorem fl_X3_keptLength_15 : (Cond.fieldLink RX3 15 "BrushStrokes$Stroke" "size" "I") ∈ wsX3_keptLength := by decide +kernel
theorem in_X3_keptLength_X3 : ∀ w ∈ u_ws RX3 TX3 3, w ∈ wsX3_keptLength := by decide +kernel
theorem cw_X3_keptLength_X3_isKept_52 {p : Program} {s : State} {m : MethodId} {args : Array Value} {meth : Method} {c : Code} {g : kG} {A : Nat → Prop} (C : CT g p s m args meth c RX3 cX3_keptLength 3 (some .int) wsX3_keptLength A) : CallW rX3_keptLength s args RX3 RX3 52 yX3_isKept cX3_isKept 2 (some .boolean) wsX3_isKept rX3_isKept 0 0 1 := cwV 1 C.2.2.2.2.2.1 gX3_keptLength_X3_isKept rfl rfl rfl (by decide +kernel) ⟨Nat.le_of_ble_eq_true rfl, Nat.le_of_ble_eq_true rfl⟩
theorem cw_X3_keptLength_X3_keptBefore_79 {p : Program} {s : State} {m : MethodId} {args : Array Value} {meth : Method} {c : Code} {g : kG} {A : Nat → Prop} (C : CT g p s m args meth c RX3 cX3_keptLength 3 (some .int) wsX3_keptLength A) : CallW rX3_keptLength s args RX3 RX3 79 yX3_keptBefore cX3_keptBefore 3 (some .int) wsX3_keptBefore rX3_keptBefore 0 0 1 := cwV 1 C.2.2.2.2.2.1 gX3_keptLength_X3_keptBefore rfl rfl rfl (by decide +kernel) ⟨Nat.le_of_ble_eq_true rfl, Nat.le_of_ble_eq_true rfl⟩
theorem cw_X3_keptLength_X3_square_62 {p : Program} {s : State} {m : MethodId} {args : Array Value} {meth : Method} {c : Code} {g : kG} {A : Nat → Prop} (C : CT g p s m args meth c RX3 cX3_keptLength 3 (some .int) wsX3_keptLength A) : CallW rX3_keptLength s args RX3 RX3 62 yX3_square cX3_square 7 (some .long) wsX3_square rX3_square 0 0 2 := cwV 2 C.2.2.2.2.2.1 gX3_keptLength_X3_square rfl rfl rfl (by decide +kernel) ⟨Nat.le_of_ble_eq_true rfl, Nat.le_of_ble_eq_true rfl⟩
theorem cw_X3_keptLength_X5_root_75 {p : Program} {s : State} {m : MethodId} {args : Array Value} {meth : Method} {c : Code} {g : kG} {A : Nat → Prop} (C : CT g p s m args meth c RX3 cX3_keptLength 3 (some .int) wsX3_keptLength A) : va_CN rX3_keptLength s args RX3 75 yX5_root RX5 cX5_root 6 (some .int) wsX5_root rX5_root 0 0 1 ∧ (Cond.static yX5_root).before args s = true ∧ True := ⟨va_cnB 1 C.2.2.2.2.2.1 gX3_keptLength_X5_root_n75 rfl rfl rfl (C.2.2.2.2.2.2.2.1.2.1.1 (RX3, 75, yX5_root, RX5) (by decide +kernel)) (C.2.2.2.2.2.1 (.initialized RX5) (by decide +kernel)) (by decide +kernel) ⟨Nat.le_of_ble_eq_true rfl, Nat.le_of_ble_eq_true rfl⟩, C.2.2.2.2.2.1 (.static yX5_root) (by decide +kernel), trivial⟩
noncomputable def bX3_keptLength_4 (w3 : SS) : Int32 × Int32 → Option ((Int32 × Int32) ⊕ (Int32))
  | (x1, x2) => if (S_size w3) ≤ x2 then (some (.inr x1)) else ((fX3_isKept x2 w3).bind fun r5 => ((if r5 = 0 then (some x1) else ((fX3_keptBefore x2 w3).bind fun r10 => (fX3_square r10 x2 w3).bind fun r11 => (fX5_root (10000 * r11)).bind fun r12 => some (x1 + r12))) : Option (Int32)).bind fun v9 => some (.inl (v9, x2 + 1)))
noncomputable def lX3_keptLength_4 (w3 : SS) (x1 : Int32) (x2 : Int32) : Option (Int32) := lp (bX3_keptLength_4 w3) (x1, x2)
theorem lX3_keptLength_4_eq (w3 : SS) (x1 : Int32) (x2 : Int32) : lX3_keptLength_4 w3 x1 x2 = (if (S_size w3) ≤ x2 then (some (.inr x1)) else ((fX3_isKept x2 w3).bind fun r5 => ((if r5 = 0 then (some x1) else ((fX3_keptBefore x2 w3).bind fun r10 => (fX3_square r10 x2 w3).bind fun r11 => (fX5_root (10000 * r11)).bind fun r12 => some (x1 + r12))) : Option (Int32)).bind fun v9 => some (.inl (v9, x2 + 1)))).bind fun r => Sum.elim (fun z => lX3_keptLength_4 w3 z.1 z.2) (fun r => some r) r := lp_eq (bX3_keptLength_4 w3) (x1, x2)
set_option maxRecDepth 100000 in
set_option maxHeartbeats 4000000 in
theorem tX3_keptLength_4 {p : Program} {l : Launch} {e : Env} {s : State} {m : MethodId} {args : Array Value} {below : List Frame} {meth : Method} {c : Code} {g : kG} {A : Nat → Prop} {Q : State → Prop} (a : Nat → Nat) (C : CT g p s m args meth c RX3 cX3_keptLength 3 (some .int) wsX3_keptLength A) (w3 : SS) (y4 : Int32) (kk : ∀ (H : Heap) (locs : List Loc) (ls : Array Slot), ST g A s H locs (wS g a w3) → lv_has ls 3 [(1, .int y4)] → W p l e rX3_keptLength s m args below meth c H locs 0 0 Q (F0 m 46 ls [])) : ∀ (n : Nat) (x1 : Int32) (x2 : Int32), whl (bX3_keptLength_4 w3) n (x1, x2) = some y4 → ∀ (H : Heap) (locs : List Loc) (ls : Array Slot), ST g A s H locs (wS g a w3) → lv_has ls 3 [(0, .ref (a 0)), (1, .int x1), (2, .int x2)] → W p l e rX3_keptLength s m args below meth c H locs 0 0 Q (F0 m 4 ls []) := by
  have hx := C.1
  have hb := C.2.1
  have hinX3 := in_X3_keptLength_X3
  have hf15 := C.2.2.2.2.2.1 _ fl_X3_keptLength_15
  intro n
  induction n with
  | zero =>
    intro x1 x2 hm
    cases hm
  | succ n ih =>
    intro x1 x2 hm H locs ls X hl
    rw [whl] at hm
    obtain ⟨q, hq, hm2⟩ := bnd hm
    clear hm
    have hm := hq
    clear hq
    rw [bX3_keptLength_4] at hm
    refine lv_iload_n hx hb dX3_keptLength_4 rfl (lv_at hl 2 rfl) ?_
    refine lv_aload_n hx hb dX3_keptLength_5 rfl (lv_at hl 0 rfl) ?_
    refine kget C X 0 (ci := 3) rfl rfl hinX3 1 (by decide) hf15 (v := .int (S_size w3)) rfl dX3_keptLength_6 ?_
    refine lv_icmp_ge (tgt := 46) hx hb dX3_keptLength_9 (by decide) (fun hc => ?_) (fun hc => ?_)
    · have hm := ifp hc hm
      cases sm hm
      cases sm hm2
      exact kk _ _ _ X (lv_sub hl [1] rfl)
    · have hm := ifn hc hm
      refine lv_aload_n hx hb dX3_keptLength_12 rfl (lv_at hl 0 rfl) ?_
      refine lv_iload_n hx hb dX3_keptLength_13 rfl (lv_at hl 2 rfl) ?_
      obtain ⟨r5, hcl, hm⟩ := bnd hm
      refine kVW C X (kX3_isKept l g a x2 w3 r5 hcl) (cw_X3_keptLength_X3_isKept_52 C) 0 (ci := 3) rfl rfl (As := [.int x2]) rfl hl (rest := []) rfl (Nat.le_of_ble_eq_true rfl) (st2 := [.int r5]) rfl dX3_keptLength_14 ⟨Nat.le_of_ble_eq_true rfl, Nat.le_of_ble_eq_true rfl⟩ (fun H locs X => ?_)
      clear hcl
      obtain ⟨v9, hE, hm⟩ := bnd hm
      have K : ∀ (H : Heap) (locs : List Loc) (ls : Array Slot), ST g A s H locs (wS g a w3) → lv_has ls 3 [(0, .ref (a 0)), (1, .int v9), (2, .int x2)] → W p l e rX3_keptLength s m args below meth c H locs 0 0 Q (F0 m 40 ls []) := by
        intro H locs ls X hl
        clear hE
        refine lv_iinc (v := x2 + 1) (lv' := [(2, .int (x2 + 1)), (0, .ref (a 0)), (1, .int v9)]) hx hb dX3_keptLength_40 hl (k := 2) rfl rfl (by decide) rfl (fun ls hl => ?_)
        refine lv_goto (tgt := 4) hx hb dX3_keptLength_43 (by decide) ?_
        cases sm hm
        exact ih _ _ hm2 _ _ _ X (lv_sub hl [1, 2, 0] rfl)
      clear hm
      have hm := hE
      clear hE
      refine lv_if_eq (tgt := 40) hx hb dX3_keptLength_17 (by decide) (fun hc => ?_) (fun hc => ?_)
      · have hm := ifp hc hm
        cases sm hm
        exact K _ _ _ X (lv_sub hl [0, 1, 2] rfl)
      · have hm := ifn hc hm
        refine lv_iload_n hx hb dX3_keptLength_20 rfl (lv_at hl 1 rfl) ?_
        refine lv_ldc2 (v := 10000) hx hb C.2.2.2.2.1 (C.2.2.2.2.2.1 (.constantLong RX3 69 10000) (by decide +kernel)) dX3_keptLength_21 ?_
        refine lv_aload_n hx hb dX3_keptLength_24 rfl (lv_at hl 0 rfl) ?_
        refine lv_aload_n hx hb dX3_keptLength_25 rfl (lv_at hl 0 rfl) ?_
        refine lv_iload_n hx hb dX3_keptLength_26 rfl (lv_at hl 2 rfl) ?_
        obtain ⟨r10, hcl, hm⟩ := bnd hm
        refine kVW C X (kX3_keptBefore l g a x2 w3 r10 hcl) (cw_X3_keptLength_X3_keptBefore_79 C) 0 (ci := 3) rfl rfl (As := [.int x2]) rfl hl (rest := [.ref (a 0), .long 10000, .int x1]) rfl (Nat.le_of_ble_eq_true rfl) (st2 := [.int r10, .ref (a 0), .long 10000, .int x1]) rfl dX3_keptLength_27 ⟨Nat.le_of_ble_eq_true rfl, Nat.le_of_ble_eq_true rfl⟩ (fun H locs X => ?_)
        clear hcl
        refine lv_iload_n hx hb dX3_keptLength_30 rfl (lv_at hl 2 rfl) ?_
        obtain ⟨r11, hcl, hm⟩ := bnd hm
        refine kVW C X (kX3_square l g a r10 x2 w3 r11 hcl) (cw_X3_keptLength_X3_square_62 C) 0 (ci := 3) rfl rfl (As := [.int r10, .int x2]) rfl hl (rest := [.long 10000, .int x1]) rfl (Nat.le_of_ble_eq_true rfl) (st2 := [.long r11, .long 10000, .int x1]) rfl dX3_keptLength_31 ⟨Nat.le_of_ble_eq_true rfl, Nat.le_of_ble_eq_true rfl⟩ (fun H locs X => ?_)
        clear hcl
        refine lv_lmul hx hb dX3_keptLength_34 ?_
        obtain ⟨r12, hcl, hm⟩ := bnd hm
        refine kN0 C X (kX5_root l g (10000 * r11) r12 hcl) (cw_X3_keptLength_X5_root_75 C) (As := [.long (10000 * r11)]) rfl hl (rest := [.int x1]) rfl (Nat.le_of_ble_eq_true rfl) (st2 := [.int r12, .int x1]) rfl dX3_keptLength_35 ⟨Nat.le_of_ble_eq_true rfl, Nat.le_of_ble_eq_true rfl⟩ (fun H locs X => ?_)
        clear hcl
        refine lv_iadd hx hb dX3_keptLength_38 ?_
        refine lv_istore_n (lv' := [(1, .int (x1 + r12)), (0, .ref (a 0)), (2, .int x2)]) hx hb dX3_keptLength_39 rfl hl (by decide) rfl (fun ls hl => ?_)
        cases sm hm
        exact K _ _ _ X (lv_sub hl [1, 0, 2] rfl)
noncomputable def fX3_keptLength (u : SS) : Option (Int32) := (lX3_keptLength_4 u 0 1).bind fun y13 => some y13
set_option maxRecDepth 100000 in
set_option maxHeartbeats 4000000 in
theorem kX3_keptLength (l : Launch) (g : kG) (a : Nat → Nat) (u : SS) (o1 : Int32) (hm : fX3_keptLength u = some o1) : KM l yX3_keptLength wsX3_keptLength rX3_keptLength g [.ref (a 0)] (wS g a u) (some (.int o1)) (wS g a u) 0 0 := by
  refine KM.of (nL := 3) (by decide) rfl (Nat.le_of_ble_eq_true rfl) ?_
  intro p e s m args below meth c A ls C X hl
  have C : CT g p s m args meth c RX3 cX3_keptLength 3 (some .int) wsX3_keptLength A := C
  have hx := C.1
  have hb := C.2.1
  have hl : lv_has ls 3 [(0, .ref (a 0))] := hl
  rw [fX3_keptLength] at hm
  refine lv_iconst (v := 0) hx hb dX3_keptLength_0 (by decide) ?_
  refine lv_istore_n (lv' := [(1, .int 0), (0, .ref (a 0))]) hx hb dX3_keptLength_1 rfl hl (by decide) rfl (fun ls hl => ?_)
  refine lv_iconst (v := 1) hx hb dX3_keptLength_2 (by decide) ?_
  refine lv_istore_n (lv' := [(2, .int 1), (1, .int 0), (0, .ref (a 0))]) hx hb dX3_keptLength_3 rfl hl (by decide) rfl (fun ls hl => ?_)
  obtain ⟨y13, hL, hm⟩ := bnd hm
  obtain ⟨nn, hn⟩ := lp_run hL
  refine tX3_keptLength_4 a C u y13 (fun H locs ls X hl => ?_) nn _ _ hn _ _ _ X (lv_sub hl [2, 1, 0] rfl)
  clear hL hn
  refine lv_iload_n hx hb dX3_keptLength_46 rfl (lv_at hl 0 rfl) ?_
  cases sm hm
  exact kiret C X dX3_keptLength_47
-- X3 BrushStrokes$Stroke.sharpJoins(I)I
abbrev rX3_sharpJoins : Room := { frames := 3, cells := 0, slots := 0, locals := 76 }
theorem fl_X3_sharpJoins_15 : (Cond.fieldLink RX3 15 "BrushStrokes$Stroke" "size" "I") ∈ wsX3_sharpJoins := by decide +kernel
theorem in_X3_sharpJoins_X3 : ∀ w ∈ u_ws RX3 TX3 3, w ∈ wsX3_sharpJoins := by decide +kernel
theorem cw_X3_sharpJoins_X3_isKept_52 {p : Program} {s : State} {m : MethodId} {args : Array Value} {meth : Method} {c : Code} {g : kG} {A : Nat → Prop} (C : CT g p s m args meth c RX3 cX3_sharpJoins 4 (some .int) wsX3_sharpJoins A) : CallW rX3_sharpJoins s args RX3 RX3 52 yX3_isKept cX3_isKept 2 (some .boolean) wsX3_isKept rX3_isKept 0 0 1 := cwV 1 C.2.2.2.2.2.1 gX3_sharpJoins_X3_isKept rfl rfl rfl (by decide +kernel) ⟨Nat.le_of_ble_eq_true rfl, Nat.le_of_ble_eq_true rfl⟩
theorem cw_X3_sharpJoins_X3_keptBefore_79 {p : Program} {s : State} {m : MethodId} {args : Array Value} {meth : Method} {c : Code} {g : kG} {A : Nat → Prop} (C : CT g p s m args meth c RX3 cX3_sharpJoins 4 (some .int) wsX3_sharpJoins A) : CallW rX3_sharpJoins s args RX3 RX3 79 yX3_keptBefore cX3_keptBefore 3 (some .int) wsX3_keptBefore rX3_keptBefore 0 0 1 := cwV 1 C.2.2.2.2.2.1 gX3_sharpJoins_X3_keptBefore rfl rfl rfl (by decide +kernel) ⟨Nat.le_of_ble_eq_true rfl, Nat.le_of_ble_eq_true rfl⟩
theorem cw_X3_sharpJoins_X3_keptBehind_82 {p : Program} {s : State} {m : MethodId} {args : Array Value} {meth : Method} {c : Code} {g : kG} {A : Nat → Prop} (C : CT g p s m args meth c RX3 cX3_sharpJoins 4 (some .int) wsX3_sharpJoins A) : CallW rX3_sharpJoins s args RX3 RX3 82 yX3_keptBehind cX3_keptBehind 3 (some .int) wsX3_keptBehind rX3_keptBehind 0 0 1 := cwV 1 C.2.2.2.2.2.1 gX3_sharpJoins_X3_keptBehind rfl rfl rfl (by decide +kernel) ⟨Nat.le_of_ble_eq_true rfl, Nat.le_of_ble_eq_true rfl⟩
theorem cw_X3_sharpJoins_X3_isSharp_98 {p : Program} {s : State} {m : MethodId} {args : Array Value} {meth : Method} {c : Code} {g : kG} {A : Nat → Prop} (C : CT g p s m args meth c RX3 cX3_sharpJoins 4 (some .int) wsX3_sharpJoins A) : CallW rX3_sharpJoins s args RX3 RX3 98 yX3_isSharp cX3_isSharp 9 (some .boolean) wsX3_isSharp rX3_isSharp 0 0 4 := cwV 4 C.2.2.2.2.2.1 gX3_sharpJoins_X3_isSharp rfl rfl rfl (by decide +kernel) ⟨Nat.le_of_ble_eq_true rfl, Nat.le_of_ble_eq_true rfl⟩
noncomputable def bX3_sharpJoins_4 (c1 : Int32) (w4 : SS) : Int32 × Int32 → Option ((Int32 × Int32) ⊕ (Int32))
  | (x2, x3) => if ((S_size w4) - 1) ≤ x3 then (some (.inr x2)) else ((fX3_isKept x3 w4).bind fun r6 => ((if r6 = 0 then (some x2) else ((fX3_keptBefore x3 w4).bind fun r11 => (fX3_keptBehind x3 w4).bind fun r12 => (fX3_isSharp r11 x3 r12 c1 w4).bind fun r13 => if r13 = 0 then (some x2) else (some (x2 + 1)))) : Option (Int32)).bind fun v10 => some (.inl (v10, x3 + 1)))
noncomputable def lX3_sharpJoins_4 (c1 : Int32) (w4 : SS) (x2 : Int32) (x3 : Int32) : Option (Int32) := lp (bX3_sharpJoins_4 c1 w4) (x2, x3)
theorem lX3_sharpJoins_4_eq (c1 : Int32) (w4 : SS) (x2 : Int32) (x3 : Int32) : lX3_sharpJoins_4 c1 w4 x2 x3 = (if ((S_size w4) - 1) ≤ x3 then (some (.inr x2)) else ((fX3_isKept x3 w4).bind fun r6 => ((if r6 = 0 then (some x2) else ((fX3_keptBefore x3 w4).bind fun r11 => (fX3_keptBehind x3 w4).bind fun r12 => (fX3_isSharp r11 x3 r12 c1 w4).bind fun r13 => if r13 = 0 then (some x2) else (some (x2 + 1)))) : Option (Int32)).bind fun v10 => some (.inl (v10, x3 + 1)))).bind fun r => Sum.elim (fun z => lX3_sharpJoins_4 c1 w4 z.1 z.2) (fun r => some r) r := lp_eq (bX3_sharpJoins_4 c1 w4) (x2, x3)
set_option maxRecDepth 100000 in
set_option maxHeartbeats 4000000 in
theorem tX3_sharpJoins_4 {p : Program} {l : Launch} {e : Env} {s : State} {m : MethodId} {args : Array Value} {below : List Frame} {meth : Method} {c : Code} {g : kG} {A : Nat → Prop} {Q : State → Prop} (a : Nat → Nat) (C : CT g p s m args meth c RX3 cX3_sharpJoins 4 (some .int) wsX3_sharpJoins A) (c1 : Int32) (w4 : SS) (y5 : Int32) (kk : ∀ (H : Heap) (locs : List Loc) (ls : Array Slot), ST g A s H locs (wS g a w4) → lv_has ls 4 [(2, .int y5)] → W p l e rX3_sharpJoins s m args below meth c H locs 0 0 Q (F0 m 50 ls [])) : ∀ (n : Nat) (x2 : Int32) (x3 : Int32), whl (bX3_sharpJoins_4 c1 w4) n (x2, x3) = some y5 → ∀ (H : Heap) (locs : List Loc) (ls : Array Slot), ST g A s H locs (wS g a w4) → lv_has ls 4 [(0, .ref (a 0)), (1, .int c1), (2, .int x2), (3, .int x3)] → W p l e rX3_sharpJoins s m args below meth c H locs 0 0 Q (F0 m 4 ls []) := by
  have hx := C.1
  have hb := C.2.1
  have hinX3 := in_X3_sharpJoins_X3
  have hf15 := C.2.2.2.2.2.1 _ fl_X3_sharpJoins_15
  intro n
  induction n with
  | zero =>
    intro x2 x3 hm
    cases hm
  | succ n ih =>
    intro x2 x3 hm H locs ls X hl
    rw [whl] at hm
    obtain ⟨q, hq, hm2⟩ := bnd hm
    clear hm
    have hm := hq
    clear hq
    rw [bX3_sharpJoins_4] at hm
    refine lv_iload_n hx hb dX3_sharpJoins_4 rfl (lv_at hl 3 rfl) ?_
    refine lv_aload_n hx hb dX3_sharpJoins_5 rfl (lv_at hl 0 rfl) ?_
    refine kget C X 0 (ci := 3) rfl rfl hinX3 1 (by decide) hf15 (v := .int (S_size w4)) rfl dX3_sharpJoins_6 ?_
    refine lv_iconst (v := 1) hx hb dX3_sharpJoins_9 (by decide) ?_
    refine lv_isub hx hb dX3_sharpJoins_10 ?_
    refine lv_icmp_ge (tgt := 50) hx hb dX3_sharpJoins_11 (by decide) (fun hc => ?_) (fun hc => ?_)
    · have hm := ifp hc hm
      cases sm hm
      cases sm hm2
      exact kk _ _ _ X (lv_sub hl [2] rfl)
    · have hm := ifn hc hm
      refine lv_aload_n hx hb dX3_sharpJoins_14 rfl (lv_at hl 0 rfl) ?_
      refine lv_iload_n hx hb dX3_sharpJoins_15 rfl (lv_at hl 3 rfl) ?_
      obtain ⟨r6, hcl, hm⟩ := bnd hm
      refine kVW C X (kX3_isKept l g a x3 w4 r6 hcl) (cw_X3_sharpJoins_X3_isKept_52 C) 0 (ci := 3) rfl rfl (As := [.int x3]) rfl hl (rest := []) rfl (Nat.le_of_ble_eq_true rfl) (st2 := [.int r6]) rfl dX3_sharpJoins_16 ⟨Nat.le_of_ble_eq_true rfl, Nat.le_of_ble_eq_true rfl⟩ (fun H locs X => ?_)
      clear hcl
      obtain ⟨v10, hE, hm⟩ := bnd hm
      have K : ∀ (H : Heap) (locs : List Loc) (ls : Array Slot), ST g A s H locs (wS g a w4) → lv_has ls 4 [(0, .ref (a 0)), (1, .int c1), (2, .int v10), (3, .int x3)] → W p l e rX3_sharpJoins s m args below meth c H locs 0 0 Q (F0 m 44 ls []) := by
        intro H locs ls X hl
        clear hE
        refine lv_iinc (v := x3 + 1) (lv' := [(3, .int (x3 + 1)), (0, .ref (a 0)), (1, .int c1), (2, .int v10)]) hx hb dX3_sharpJoins_44 hl (k := 3) rfl rfl (by decide) rfl (fun ls hl => ?_)
        refine lv_goto (tgt := 4) hx hb dX3_sharpJoins_47 (by decide) ?_
        cases sm hm
        exact ih _ _ hm2 _ _ _ X (lv_sub hl [1, 2, 3, 0] rfl)
      clear hm
      have hm := hE
      clear hE
      refine lv_if_eq (tgt := 44) hx hb dX3_sharpJoins_19 (by decide) (fun hc => ?_) (fun hc => ?_)
      · have hm := ifp hc hm
        cases sm hm
        exact K _ _ _ X (lv_sub hl [0, 1, 2, 3] rfl)
      · have hm := ifn hc hm
        refine lv_aload_n hx hb dX3_sharpJoins_22 rfl (lv_at hl 0 rfl) ?_
        refine lv_aload_n hx hb dX3_sharpJoins_23 rfl (lv_at hl 0 rfl) ?_
        refine lv_iload_n hx hb dX3_sharpJoins_24 rfl (lv_at hl 3 rfl) ?_
        obtain ⟨r11, hcl, hm⟩ := bnd hm
        refine kVW C X (kX3_keptBefore l g a x3 w4 r11 hcl) (cw_X3_sharpJoins_X3_keptBefore_79 C) 0 (ci := 3) rfl rfl (As := [.int x3]) rfl hl (rest := [.ref (a 0)]) rfl (Nat.le_of_ble_eq_true rfl) (st2 := [.int r11, .ref (a 0)]) rfl dX3_sharpJoins_25 ⟨Nat.le_of_ble_eq_true rfl, Nat.le_of_ble_eq_true rfl⟩ (fun H locs X => ?_)
        clear hcl
        refine lv_iload_n hx hb dX3_sharpJoins_28 rfl (lv_at hl 3 rfl) ?_
        refine lv_aload_n hx hb dX3_sharpJoins_29 rfl (lv_at hl 0 rfl) ?_
        refine lv_iload_n hx hb dX3_sharpJoins_30 rfl (lv_at hl 3 rfl) ?_
        obtain ⟨r12, hcl, hm⟩ := bnd hm
        refine kVW C X (kX3_keptBehind l g a x3 w4 r12 hcl) (cw_X3_sharpJoins_X3_keptBehind_82 C) 0 (ci := 3) rfl rfl (As := [.int x3]) rfl hl (rest := [.int x3, .int r11, .ref (a 0)]) rfl (Nat.le_of_ble_eq_true rfl) (st2 := [.int r12, .int x3, .int r11, .ref (a 0)]) rfl dX3_sharpJoins_31 ⟨Nat.le_of_ble_eq_true rfl, Nat.le_of_ble_eq_true rfl⟩ (fun H locs X => ?_)
        clear hcl
        refine lv_iload_n hx hb dX3_sharpJoins_34 rfl (lv_at hl 1 rfl) ?_
        obtain ⟨r13, hcl, hm⟩ := bnd hm
        refine kVW C X (kX3_isSharp l g a r11 x3 r12 c1 w4 r13 hcl) (cw_X3_sharpJoins_X3_isSharp_98 C) 0 (ci := 3) rfl rfl (As := [.int r11, .int x3, .int r12, .int c1]) rfl hl (rest := []) rfl (Nat.le_of_ble_eq_true rfl) (st2 := [.int r13]) rfl dX3_sharpJoins_35 ⟨Nat.le_of_ble_eq_true rfl, Nat.le_of_ble_eq_true rfl⟩ (fun H locs X => ?_)
        clear hcl
        refine lv_if_eq (tgt := 44) hx hb dX3_sharpJoins_38 (by decide) (fun hc => ?_) (fun hc => ?_)
        · have hm := ifp hc hm
          cases sm hm
          exact K _ _ _ X (lv_sub hl [0, 1, 2, 3] rfl)
        · have hm := ifn hc hm
          refine lv_iinc (v := x2 + 1) (lv' := [(2, .int (x2 + 1)), (0, .ref (a 0)), (1, .int c1), (3, .int x3)]) hx hb dX3_sharpJoins_41 hl (k := 2) rfl rfl (by decide) rfl (fun ls hl => ?_)
          cases sm hm
          exact K _ _ _ X (lv_sub hl [1, 2, 0, 3] rfl)
noncomputable def fX3_sharpJoins (p1 : Int32) (u : SS) : Option (Int32) := (lX3_sharpJoins_4 p1 u 0 1).bind fun y14 => some y14
set_option maxRecDepth 100000 in
set_option maxHeartbeats 4000000 in
theorem kX3_sharpJoins (l : Launch) (g : kG) (a : Nat → Nat) (p1 : Int32) (u : SS) (o1 : Int32) (hm : fX3_sharpJoins p1 u = some o1) : KM l yX3_sharpJoins wsX3_sharpJoins rX3_sharpJoins g [.ref (a 0), .int p1] (wS g a u) (some (.int o1)) (wS g a u) 0 0 := by
  refine KM.of (nL := 4) (by decide) rfl (Nat.le_of_ble_eq_true rfl) ?_
  intro p e s m args below meth c A ls C X hl
  have C : CT g p s m args meth c RX3 cX3_sharpJoins 4 (some .int) wsX3_sharpJoins A := C
  have hx := C.1
  have hb := C.2.1
  have hl : lv_has ls 4 [(0, .ref (a 0)), (1, .int p1)] := hl
  rw [fX3_sharpJoins] at hm
  refine lv_iconst (v := 0) hx hb dX3_sharpJoins_0 (by decide) ?_
  refine lv_istore_n (lv' := [(2, .int 0), (0, .ref (a 0)), (1, .int p1)]) hx hb dX3_sharpJoins_1 rfl hl (by decide) rfl (fun ls hl => ?_)
  refine lv_iconst (v := 1) hx hb dX3_sharpJoins_2 (by decide) ?_
  refine lv_istore_n (lv' := [(3, .int 1), (2, .int 0), (0, .ref (a 0)), (1, .int p1)]) hx hb dX3_sharpJoins_3 rfl hl (by decide) rfl (fun ls hl => ?_)
  obtain ⟨y14, hL, hm⟩ := bnd hm
  obtain ⟨nn, hn⟩ := lp_run hL
  refine tX3_sharpJoins_4 a C p1 u y14 (fun H locs ls X hl => ?_) nn _ _ hn _ _ _ X (lv_sub hl [2, 3, 1, 0] rfl)
  clear hL hn
  refine lv_iload_n hx hb dX3_sharpJoins_50 rfl (lv_at hl 0 rfl) ?_
  cases sm hm
  exact kiret C X dX3_sharpJoins_51
-- X3 BrushStrokes$Stroke.areApart(IIII)Z
abbrev rX3_areApart : Room := { frames := 2, cells := 0, slots := 0, locals := 45 }
theorem cw_X3_areApart_X3_sideOf_114 {p : Program} {s : State} {m : MethodId} {args : Array Value} {meth : Method} {c : Code} {g : kG} {A : Nat → Prop} (C : CT g p s m args meth c RX3 cX3_areApart 9 (some .boolean) wsX3_areApart A) : CallW rX3_areApart s args RX3 RX3 114 yX3_sideOf cX3_sideOf 4 (some .long) wsX3_sideOf rX3_sideOf 0 0 3 := cwV 3 C.2.2.2.2.2.1 gX3_areApart_X3_sideOf rfl rfl rfl (by decide +kernel) ⟨Nat.le_of_ble_eq_true rfl, Nat.le_of_ble_eq_true rfl⟩
noncomputable def fX3_areApart (p1 : Int32) (p2 : Int32) (p3 : Int32) (p4 : Int32) (u : SS) : Option (Int32) := (fX3_sideOf p3 p1 p2 u).bind fun r1 => (fX3_sideOf p4 p1 p2 u).bind fun r2 => ((if 0 ≤ r1 then (if r1 ≤ 0 then (some 0) else (if 0 ≤ r2 then (some 0) else (some 1))) else (if 0 < r2 then (some 1) else (if r1 ≤ 0 then (some 0) else (if 0 ≤ r2 then (some 0) else (some 1))))) : Option (Int32)).bind fun v3 => gd (isb v3) (some v3)
set_option maxRecDepth 100000 in
set_option maxHeartbeats 4000000 in
theorem kX3_areApart (l : Launch) (g : kG) (a : Nat → Nat) (p1 : Int32) (p2 : Int32) (p3 : Int32) (p4 : Int32) (u : SS) (o1 : Int32) (hm : fX3_areApart p1 p2 p3 p4 u = some o1) : KM l yX3_areApart wsX3_areApart rX3_areApart g [.ref (a 0), .int p1, .int p2, .int p3, .int p4] (wS g a u) (some (.int o1)) (wS g a u) 0 0 := by
  refine KM.of (nL := 9) (by decide) rfl (Nat.le_of_ble_eq_true rfl) ?_
  intro p e s m args below meth c A ls C X hl
  have C : CT g p s m args meth c RX3 cX3_areApart 9 (some .boolean) wsX3_areApart A := C
  have hx := C.1
  have hb := C.2.1
  have hl : lv_has ls 9 [(0, .ref (a 0)), (1, .int p1), (2, .int p2), (3, .int p3), (4, .int p4)] := hl
  rw [fX3_areApart] at hm
  refine lv_aload_n hx hb dX3_areApart_0 rfl (lv_at hl 0 rfl) ?_
  refine lv_iload_n hx hb dX3_areApart_1 rfl (lv_at hl 3 rfl) ?_
  refine lv_iload_n hx hb dX3_areApart_2 rfl (lv_at hl 1 rfl) ?_
  refine lv_iload_n hx hb dX3_areApart_3 rfl (lv_at hl 2 rfl) ?_
  obtain ⟨r1, hcl, hm⟩ := bnd hm
  refine kVW C X (kX3_sideOf l g a p3 p1 p2 u r1 hcl) (cw_X3_areApart_X3_sideOf_114 C) 0 (ci := 3) rfl rfl (As := [.int p3, .int p1, .int p2]) rfl hl (rest := []) rfl (Nat.le_of_ble_eq_true rfl) (st2 := [.long r1]) rfl dX3_areApart_4 ⟨Nat.le_of_ble_eq_true rfl, Nat.le_of_ble_eq_true rfl⟩ (fun H locs X => ?_)
  clear hcl
  refine lv_lstore (lv' := [(5, .long r1), (0, .ref (a 0)), (1, .int p1), (2, .int p2), (3, .int p3), (4, .int p4)]) hx hb dX3_areApart_7 hl (by decide) rfl (fun ls hl => ?_)
  refine lv_aload_n hx hb dX3_areApart_9 rfl (lv_at hl 1 rfl) ?_
  refine lv_iload hx hb dX3_areApart_10 (lv_at hl 5 rfl) ?_
  refine lv_iload_n hx hb dX3_areApart_12 rfl (lv_at hl 2 rfl) ?_
  refine lv_iload_n hx hb dX3_areApart_13 rfl (lv_at hl 3 rfl) ?_
  obtain ⟨r2, hcl, hm⟩ := bnd hm
  refine kVW C X (kX3_sideOf l g a p4 p1 p2 u r2 hcl) (cw_X3_areApart_X3_sideOf_114 C) 0 (ci := 3) rfl rfl (As := [.int p4, .int p1, .int p2]) rfl hl (rest := []) rfl (Nat.le_of_ble_eq_true rfl) (st2 := [.long r2]) rfl dX3_areApart_14 ⟨Nat.le_of_ble_eq_true rfl, Nat.le_of_ble_eq_true rfl⟩ (fun H locs X => ?_)
  clear hcl
  refine lv_lstore (lv' := [(7, .long r2), (5, .long r1), (0, .ref (a 0)), (1, .int p1), (2, .int p2), (3, .int p3), (4, .int p4)]) hx hb dX3_areApart_17 hl (by decide) rfl (fun ls hl => ?_)
  refine lv_lload hx hb dX3_areApart_19 (lv_at hl 1 rfl) ?_
  refine lv_lconst (v := 0) hx hb dX3_areApart_21 (by decide) ?_
  obtain ⟨v3, hE, hm⟩ := bnd hm
  have K : ∀ (H : Heap) (locs : List Loc) (ls : Array Slot), ST g A s H locs (wS g a u) → lv_has ls 9 [] → W p l e rX3_areApart s m args below meth c H locs 0 0 (kEnd g below args s (some (.int o1)) (wS g a u) A 0 0) (F0 m 52 ls [.int v3]) := by
    intro H locs ls X hl
    clear hE
    obtain ⟨hgb, hm⟩ := gd_t hm
    cases sm hm
    exact kzret (isb_n hgb) C X dX3_areApart_52
  clear hm
  have hm := hE
  clear hE
  refine klcmp_ge (tgt := 33) hx hb dX3_areApart_22 dX3_areApart_23 (by decide) (fun hc => ?_) (fun hc => ?_)
  · have hm := ifp hc hm
    refine lv_lload hx hb dX3_areApart_33 (lv_at hl 1 rfl) ?_
    refine lv_lconst (v := 0) hx hb dX3_areApart_35 (by decide) ?_
    refine klcmp_le (tgt := 51) hx hb dX3_areApart_36 dX3_areApart_37 (by decide) (fun hc => ?_) (fun hc => ?_)
    · have hm := ifp hc hm
      refine lv_iconst (v := 0) hx hb dX3_areApart_51 (by decide) ?_
      cases sm hm
      exact K _ _ _ X (lv_sub hl [] rfl)
    · have hm := ifn hc hm
      refine lv_lload hx hb dX3_areApart_40 (lv_at hl 0 rfl) ?_
      refine lv_lconst (v := 0) hx hb dX3_areApart_42 (by decide) ?_
      refine klcmp_ge (tgt := 51) hx hb dX3_areApart_43 dX3_areApart_44 (by decide) (fun hc => ?_) (fun hc => ?_)
      · have hm := ifp hc hm
        refine lv_iconst (v := 0) hx hb dX3_areApart_51 (by decide) ?_
        cases sm hm
        exact K _ _ _ X (lv_sub hl [] rfl)
      · have hm := ifn hc hm
        refine lv_iconst (v := 1) hx hb dX3_areApart_47 (by decide) ?_
        refine lv_goto (tgt := 52) hx hb dX3_areApart_48 (by decide) ?_
        cases sm hm
        exact K _ _ _ X (lv_sub hl [] rfl)
  · have hm := ifn hc hm
    refine lv_lload hx hb dX3_areApart_26 (lv_at hl 0 rfl) ?_
    refine lv_lconst (v := 0) hx hb dX3_areApart_28 (by decide) ?_
    refine klcmp_gt (tgt := 47) hx hb dX3_areApart_29 dX3_areApart_30 (by decide) (fun hc => ?_) (fun hc => ?_)
    · have hm := ifp hc hm
      refine lv_iconst (v := 1) hx hb dX3_areApart_47 (by decide) ?_
      refine lv_goto (tgt := 52) hx hb dX3_areApart_48 (by decide) ?_
      cases sm hm
      exact K _ _ _ X (lv_sub hl [] rfl)
    · have hm := ifn hc hm
      refine lv_lload hx hb dX3_areApart_33 (lv_at hl 1 rfl) ?_
      refine lv_lconst (v := 0) hx hb dX3_areApart_35 (by decide) ?_
      refine klcmp_le (tgt := 51) hx hb dX3_areApart_36 dX3_areApart_37 (by decide) (fun hc => ?_) (fun hc => ?_)
      · have hm := ifp hc hm
        refine lv_iconst (v := 0) hx hb dX3_areApart_51 (by decide) ?_
        cases sm hm
        exact K _ _ _ X (lv_sub hl [] rfl)
      · have hm := ifn hc hm
        refine lv_lload hx hb dX3_areApart_40 (lv_at hl 0 rfl) ?_
        refine lv_lconst (v := 0) hx hb dX3_areApart_42 (by decide) ?_
        refine klcmp_ge (tgt := 51) hx hb dX3_areApart_43 dX3_areApart_44 (by decide) (fun hc => ?_) (fun hc => ?_)
        · have hm := ifp hc hm
          refine lv_iconst (v := 0) hx hb dX3_areApart_51 (by decide) ?_
          cases sm hm
          exact K _ _ _ X (lv_sub hl [] rfl)
        · have hm := ifn hc hm
          refine lv_iconst (v := 1) hx hb dX3_areApart_47 (by decide) ?_
          refine lv_goto (tgt := 52) hx hb dX3_areApart_48 (by decide) ?_
          cases sm hm
          exact K _ _ _ X (lv_sub hl [] rfl)
-- X3 BrushStrokes$Stroke.cross(IIII)Z
abbrev rX3_cross : Room := { frames := 3, cells := 0, slots := 0, locals := 73 }
theorem cw_X3_cross_X3_areApart_111 {p : Program} {s : State} {m : MethodId} {args : Array Value} {meth : Method} {c : Code} {g : kG} {A : Nat → Prop} (C : CT g p s m args meth c RX3 cX3_cross 5 (some .boolean) wsX3_cross A) : CallW rX3_cross s args RX3 RX3 111 yX3_areApart cX3_areApart 9 (some .boolean) wsX3_areApart rX3_areApart 0 0 4 := cwV 4 C.2.2.2.2.2.1 gX3_cross_X3_areApart rfl rfl rfl (by decide +kernel) ⟨Nat.le_of_ble_eq_true rfl, Nat.le_of_ble_eq_true rfl⟩
noncomputable def fX3_cross (p1 : Int32) (p2 : Int32) (p3 : Int32) (p4 : Int32) (u : SS) : Option (Int32) := (fX3_areApart p1 p2 p3 p4 u).bind fun r1 => ((if r1 = 0 then (some 0) else ((fX3_areApart p3 p4 p1 p2 u).bind fun r4 => if r4 = 0 then (some 0) else (some 1))) : Option (Int32)).bind fun v3 => gd (isb v3) (some v3)
set_option maxRecDepth 100000 in
set_option maxHeartbeats 4000000 in
theorem kX3_cross (l : Launch) (g : kG) (a : Nat → Nat) (p1 : Int32) (p2 : Int32) (p3 : Int32) (p4 : Int32) (u : SS) (o1 : Int32) (hm : fX3_cross p1 p2 p3 p4 u = some o1) : KM l yX3_cross wsX3_cross rX3_cross g [.ref (a 0), .int p1, .int p2, .int p3, .int p4] (wS g a u) (some (.int o1)) (wS g a u) 0 0 := by
  refine KM.of (nL := 5) (by decide) rfl (Nat.le_of_ble_eq_true rfl) ?_
  intro p e s m args below meth c A ls C X hl
  have C : CT g p s m args meth c RX3 cX3_cross 5 (some .boolean) wsX3_cross A := C
  have hx := C.1
  have hb := C.2.1
  have hl : lv_has ls 5 [(0, .ref (a 0)), (1, .int p1), (2, .int p2), (3, .int p3), (4, .int p4)] := hl
  rw [fX3_cross] at hm
  refine lv_aload_n hx hb dX3_cross_0 rfl (lv_at hl 0 rfl) ?_
  refine lv_iload_n hx hb dX3_cross_1 rfl (lv_at hl 1 rfl) ?_
  refine lv_iload_n hx hb dX3_cross_2 rfl (lv_at hl 2 rfl) ?_
  refine lv_iload_n hx hb dX3_cross_3 rfl (lv_at hl 3 rfl) ?_
  refine lv_iload hx hb dX3_cross_4 (lv_at hl 4 rfl) ?_
  obtain ⟨r1, hcl, hm⟩ := bnd hm
  refine kVW C X (kX3_areApart l g a p1 p2 p3 p4 u r1 hcl) (cw_X3_cross_X3_areApart_111 C) 0 (ci := 3) rfl rfl (As := [.int p1, .int p2, .int p3, .int p4]) rfl hl (rest := []) rfl (Nat.le_of_ble_eq_true rfl) (st2 := [.int r1]) rfl dX3_cross_6 ⟨Nat.le_of_ble_eq_true rfl, Nat.le_of_ble_eq_true rfl⟩ (fun H locs X => ?_)
  clear hcl
  obtain ⟨v3, hE, hm⟩ := bnd hm
  have K : ∀ (H : Heap) (locs : List Loc) (ls : Array Slot), ST g A s H locs (wS g a u) → lv_has ls 5 [] → W p l e rX3_cross s m args below meth c H locs 0 0 (kEnd g below args s (some (.int o1)) (wS g a u) A 0 0) (F0 m 29 ls [.int v3]) := by
    intro H locs ls X hl
    clear hE
    obtain ⟨hgb, hm⟩ := gd_t hm
    cases sm hm
    exact kzret (isb_n hgb) C X dX3_cross_29
  clear hm
  have hm := hE
  clear hE
  refine lv_if_eq (tgt := 28) hx hb dX3_cross_9 (by decide) (fun hc => ?_) (fun hc => ?_)
  · have hm := ifp hc hm
    refine lv_iconst (v := 0) hx hb dX3_cross_28 (by decide) ?_
    cases sm hm
    exact K _ _ _ X (lv_sub hl [] rfl)
  · have hm := ifn hc hm
    refine lv_aload_n hx hb dX3_cross_12 rfl (lv_at hl 0 rfl) ?_
    refine lv_iload_n hx hb dX3_cross_13 rfl (lv_at hl 3 rfl) ?_
    refine lv_iload hx hb dX3_cross_14 (lv_at hl 4 rfl) ?_
    refine lv_iload_n hx hb dX3_cross_16 rfl (lv_at hl 1 rfl) ?_
    refine lv_iload_n hx hb dX3_cross_17 rfl (lv_at hl 2 rfl) ?_
    obtain ⟨r4, hcl, hm⟩ := bnd hm
    refine kVW C X (kX3_areApart l g a p3 p4 p1 p2 u r4 hcl) (cw_X3_cross_X3_areApart_111 C) 0 (ci := 3) rfl rfl (As := [.int p3, .int p4, .int p1, .int p2]) rfl hl (rest := []) rfl (Nat.le_of_ble_eq_true rfl) (st2 := [.int r4]) rfl dX3_cross_18 ⟨Nat.le_of_ble_eq_true rfl, Nat.le_of_ble_eq_true rfl⟩ (fun H locs X => ?_)
    clear hcl
    refine lv_if_eq (tgt := 28) hx hb dX3_cross_21 (by decide) (fun hc => ?_) (fun hc => ?_)
    · have hm := ifp hc hm
      refine lv_iconst (v := 0) hx hb dX3_cross_28 (by decide) ?_
      cases sm hm
      exact K _ _ _ X (lv_sub hl [] rfl)
    · have hm := ifn hc hm
      refine lv_iconst (v := 1) hx hb dX3_cross_24 (by decide) ?_
      refine lv_goto (tgt := 29) hx hb dX3_cross_25 (by decide) ?_
      cases sm hm
      exact K _ _ _ X (lv_sub hl [] rfl)
-- X3 BrushStrokes$Stroke.crossingsBehind(I)I
abbrev rX3_crossingsBehind : Room := { frames := 4, cells := 0, slots := 0, locals := 97 }
theorem fl_X3_crossingsBehind_15 : (Cond.fieldLink RX3 15 "BrushStrokes$Stroke" "size" "I") ∈ wsX3_crossingsBehind := by decide +kernel
theorem in_X3_crossingsBehind_X3 : ∀ w ∈ u_ws RX3 TX3 3, w ∈ wsX3_crossingsBehind := by decide +kernel
theorem cw_X3_crossingsBehind_X3_keptBefore_79 {p : Program} {s : State} {m : MethodId} {args : Array Value} {meth : Method} {c : Code} {g : kG} {A : Nat → Prop} (C : CT g p s m args meth c RX3 cX3_crossingsBehind 5 (some .int) wsX3_crossingsBehind A) : CallW rX3_crossingsBehind s args RX3 RX3 79 yX3_keptBefore cX3_keptBefore 3 (some .int) wsX3_keptBefore rX3_keptBefore 0 0 1 := cwV 1 C.2.2.2.2.2.1 gX3_crossingsBehind_X3_keptBefore rfl rfl rfl (by decide +kernel) ⟨Nat.le_of_ble_eq_true rfl, Nat.le_of_ble_eq_true rfl⟩
theorem cw_X3_crossingsBehind_X3_isKept_52 {p : Program} {s : State} {m : MethodId} {args : Array Value} {meth : Method} {c : Code} {g : kG} {A : Nat → Prop} (C : CT g p s m args meth c RX3 cX3_crossingsBehind 5 (some .int) wsX3_crossingsBehind A) : CallW rX3_crossingsBehind s args RX3 RX3 52 yX3_isKept cX3_isKept 2 (some .boolean) wsX3_isKept rX3_isKept 0 0 1 := cwV 1 C.2.2.2.2.2.1 gX3_crossingsBehind_X3_isKept rfl rfl rfl (by decide +kernel) ⟨Nat.le_of_ble_eq_true rfl, Nat.le_of_ble_eq_true rfl⟩
theorem cw_X3_crossingsBehind_X3_keptBehind_82 {p : Program} {s : State} {m : MethodId} {args : Array Value} {meth : Method} {c : Code} {g : kG} {A : Nat → Prop} (C : CT g p s m args meth c RX3 cX3_crossingsBehind 5 (some .int) wsX3_crossingsBehind A) : CallW rX3_crossingsBehind s args RX3 RX3 82 yX3_keptBehind cX3_keptBehind 3 (some .int) wsX3_keptBehind rX3_keptBehind 0 0 1 := cwV 1 C.2.2.2.2.2.1 gX3_crossingsBehind_X3_keptBehind rfl rfl rfl (by decide +kernel) ⟨Nat.le_of_ble_eq_true rfl, Nat.le_of_ble_eq_true rfl⟩
theorem cw_X3_crossingsBehind_X3_cross_108 {p : Program} {s : State} {m : MethodId} {args : Array Value} {meth : Method} {c : Code} {g : kG} {A : Nat → Prop} (C : CT g p s m args meth c RX3 cX3_crossingsBehind 5 (some .int) wsX3_crossingsBehind A) : CallW rX3_crossingsBehind s args RX3 RX3 108 yX3_cross cX3_cross 5 (some .boolean) wsX3_cross rX3_cross 0 0 4 := cwV 4 C.2.2.2.2.2.1 gX3_crossingsBehind_X3_cross rfl rfl rfl (by decide +kernel) ⟨Nat.le_of_ble_eq_true rfl, Nat.le_of_ble_eq_true rfl⟩
noncomputable def bX3_crossingsBehind_13 (c2 : Int32) (c3 : Int32) (w6 : SS) : Int32 × Int32 → Option ((Int32 × Int32) ⊕ (Int32))
  | (x4, x5) => if ((S_size w6) - 1) ≤ x5 then (some (.inr x4)) else ((fX3_isKept x5 w6).bind fun r8 => ((if r8 = 0 then (some x4) else ((fX3_keptBehind x5 w6).bind fun r12 => (fX3_cross c3 c2 x5 r12 w6).bind fun r13 => if r13 = 0 then (some x4) else (some (x4 + 1)))) : Option (Int32)).bind fun v11 => some (.inl (v11, x5 + 1)))
noncomputable def lX3_crossingsBehind_13 (c2 : Int32) (c3 : Int32) (w6 : SS) (x4 : Int32) (x5 : Int32) : Option (Int32) := lp (bX3_crossingsBehind_13 c2 c3 w6) (x4, x5)
theorem lX3_crossingsBehind_13_eq (c2 : Int32) (c3 : Int32) (w6 : SS) (x4 : Int32) (x5 : Int32) : lX3_crossingsBehind_13 c2 c3 w6 x4 x5 = (if ((S_size w6) - 1) ≤ x5 then (some (.inr x4)) else ((fX3_isKept x5 w6).bind fun r8 => ((if r8 = 0 then (some x4) else ((fX3_keptBehind x5 w6).bind fun r12 => (fX3_cross c3 c2 x5 r12 w6).bind fun r13 => if r13 = 0 then (some x4) else (some (x4 + 1)))) : Option (Int32)).bind fun v11 => some (.inl (v11, x5 + 1)))).bind fun r => Sum.elim (fun z => lX3_crossingsBehind_13 c2 c3 w6 z.1 z.2) (fun r => some r) r := lp_eq (bX3_crossingsBehind_13 c2 c3 w6) (x4, x5)
set_option maxRecDepth 100000 in
set_option maxHeartbeats 4000000 in
theorem tX3_crossingsBehind_13 {p : Program} {l : Launch} {e : Env} {s : State} {m : MethodId} {args : Array Value} {below : List Frame} {meth : Method} {c : Code} {g : kG} {A : Nat → Prop} {Q : State → Prop} (a : Nat → Nat) (C : CT g p s m args meth c RX3 cX3_crossingsBehind 5 (some .int) wsX3_crossingsBehind A) (c2 : Int32) (c3 : Int32) (w6 : SS) (y7 : Int32) (kk : ∀ (H : Heap) (locs : List Loc) (ls : Array Slot), ST g A s H locs (wS g a w6) → lv_has ls 5 [(3, .int y7)] → W p l e rX3_crossingsBehind s m args below meth c H locs 0 0 Q (F0 m 59 ls [])) : ∀ (n : Nat) (x4 : Int32) (x5 : Int32), whl (bX3_crossingsBehind_13 c2 c3 w6) n (x4, x5) = some y7 → ∀ (H : Heap) (locs : List Loc) (ls : Array Slot), ST g A s H locs (wS g a w6) → lv_has ls 5 [(0, .ref (a 0)), (1, .int c2), (2, .int c3), (3, .int x4), (4, .int x5)] → W p l e rX3_crossingsBehind s m args below meth c H locs 0 0 Q (F0 m 13 ls []) := by
  have hx := C.1
  have hb := C.2.1
  have hinX3 := in_X3_crossingsBehind_X3
  have hf15 := C.2.2.2.2.2.1 _ fl_X3_crossingsBehind_15
  intro n
  induction n with
  | zero =>
    intro x4 x5 hm
    cases hm
  | succ n ih =>
    intro x4 x5 hm H locs ls X hl
    rw [whl] at hm
    obtain ⟨q, hq, hm2⟩ := bnd hm
    clear hm
    have hm := hq
    clear hq
    rw [bX3_crossingsBehind_13] at hm
    refine lv_iload hx hb dX3_crossingsBehind_13 (lv_at hl 4 rfl) ?_
    refine lv_aload_n hx hb dX3_crossingsBehind_15 rfl (lv_at hl 0 rfl) ?_
    refine kget C X 0 (ci := 3) rfl rfl hinX3 1 (by decide) hf15 (v := .int (S_size w6)) rfl dX3_crossingsBehind_16 ?_
    refine lv_iconst (v := 1) hx hb dX3_crossingsBehind_19 (by decide) ?_
    refine lv_isub hx hb dX3_crossingsBehind_20 ?_
    refine lv_icmp_ge (tgt := 59) hx hb dX3_crossingsBehind_21 (by decide) (fun hc => ?_) (fun hc => ?_)
    · have hm := ifp hc hm
      cases sm hm
      cases sm hm2
      exact kk _ _ _ X (lv_sub hl [3] rfl)
    · have hm := ifn hc hm
      refine lv_aload_n hx hb dX3_crossingsBehind_24 rfl (lv_at hl 0 rfl) ?_
      refine lv_iload hx hb dX3_crossingsBehind_25 (lv_at hl 4 rfl) ?_
      obtain ⟨r8, hcl, hm⟩ := bnd hm
      refine kVW C X (kX3_isKept l g a x5 w6 r8 hcl) (cw_X3_crossingsBehind_X3_isKept_52 C) 0 (ci := 3) rfl rfl (As := [.int x5]) rfl hl (rest := []) rfl (Nat.le_of_ble_eq_true rfl) (st2 := [.int r8]) rfl dX3_crossingsBehind_27 ⟨Nat.le_of_ble_eq_true rfl, Nat.le_of_ble_eq_true rfl⟩ (fun H locs X => ?_)
      clear hcl
      obtain ⟨v11, hE, hm⟩ := bnd hm
      have K : ∀ (H : Heap) (locs : List Loc) (ls : Array Slot), ST g A s H locs (wS g a w6) → lv_has ls 5 [(0, .ref (a 0)), (1, .int c2), (2, .int c3), (3, .int v11), (4, .int x5)] → W p l e rX3_crossingsBehind s m args below meth c H locs 0 0 Q (F0 m 53 ls []) := by
        intro H locs ls X hl
        clear hE
        refine lv_iinc (v := x5 + 1) (lv' := [(4, .int (x5 + 1)), (0, .ref (a 0)), (1, .int c2), (2, .int c3), (3, .int v11)]) hx hb dX3_crossingsBehind_53 hl (k := 4) rfl rfl (by decide) rfl (fun ls hl => ?_)
        refine lv_goto (tgt := 13) hx hb dX3_crossingsBehind_56 (by decide) ?_
        cases sm hm
        exact ih _ _ hm2 _ _ _ X (lv_sub hl [1, 2, 3, 4, 0] rfl)
      clear hm
      have hm := hE
      clear hE
      refine lv_if_eq (tgt := 53) hx hb dX3_crossingsBehind_30 (by decide) (fun hc => ?_) (fun hc => ?_)
      · have hm := ifp hc hm
        cases sm hm
        exact K _ _ _ X (lv_sub hl [0, 1, 2, 3, 4] rfl)
      · have hm := ifn hc hm
        refine lv_aload_n hx hb dX3_crossingsBehind_33 rfl (lv_at hl 0 rfl) ?_
        refine lv_iload_n hx hb dX3_crossingsBehind_34 rfl (lv_at hl 2 rfl) ?_
        refine lv_iload_n hx hb dX3_crossingsBehind_35 rfl (lv_at hl 1 rfl) ?_
        refine lv_iload hx hb dX3_crossingsBehind_36 (lv_at hl 4 rfl) ?_
        refine lv_aload_n hx hb dX3_crossingsBehind_38 rfl (lv_at hl 0 rfl) ?_
        refine lv_iload hx hb dX3_crossingsBehind_39 (lv_at hl 4 rfl) ?_
        obtain ⟨r12, hcl, hm⟩ := bnd hm
        refine kVW C X (kX3_keptBehind l g a x5 w6 r12 hcl) (cw_X3_crossingsBehind_X3_keptBehind_82 C) 0 (ci := 3) rfl rfl (As := [.int x5]) rfl hl (rest := [.int x5, .int c2, .int c3, .ref (a 0)]) rfl (Nat.le_of_ble_eq_true rfl) (st2 := [.int r12, .int x5, .int c2, .int c3, .ref (a 0)]) rfl dX3_crossingsBehind_41 ⟨Nat.le_of_ble_eq_true rfl, Nat.le_of_ble_eq_true rfl⟩ (fun H locs X => ?_)
        clear hcl
        obtain ⟨r13, hcl, hm⟩ := bnd hm
        refine kVW C X (kX3_cross l g a c3 c2 x5 r12 w6 r13 hcl) (cw_X3_crossingsBehind_X3_cross_108 C) 0 (ci := 3) rfl rfl (As := [.int c3, .int c2, .int x5, .int r12]) rfl hl (rest := []) rfl (Nat.le_of_ble_eq_true rfl) (st2 := [.int r13]) rfl dX3_crossingsBehind_44 ⟨Nat.le_of_ble_eq_true rfl, Nat.le_of_ble_eq_true rfl⟩ (fun H locs X => ?_)
        clear hcl
        refine lv_if_eq (tgt := 53) hx hb dX3_crossingsBehind_47 (by decide) (fun hc => ?_) (fun hc => ?_)
        · have hm := ifp hc hm
          cases sm hm
          exact K _ _ _ X (lv_sub hl [0, 1, 2, 3, 4] rfl)
        · have hm := ifn hc hm
          refine lv_iinc (v := x4 + 1) (lv' := [(3, .int (x4 + 1)), (0, .ref (a 0)), (1, .int c2), (2, .int c3), (4, .int x5)]) hx hb dX3_crossingsBehind_50 hl (k := 3) rfl rfl (by decide) rfl (fun ls hl => ?_)
          cases sm hm
          exact K _ _ _ X (lv_sub hl [1, 2, 3, 0, 4] rfl)
noncomputable def fX3_crossingsBehind (p1 : Int32) (u : SS) : Option (Int32) := (fX3_keptBefore p1 u).bind fun r1 => (lX3_crossingsBehind_13 p1 r1 u 0 (p1 + 1)).bind fun y14 => some y14
set_option maxRecDepth 100000 in
set_option maxHeartbeats 4000000 in
theorem kX3_crossingsBehind (l : Launch) (g : kG) (a : Nat → Nat) (p1 : Int32) (u : SS) (o1 : Int32) (hm : fX3_crossingsBehind p1 u = some o1) : KM l yX3_crossingsBehind wsX3_crossingsBehind rX3_crossingsBehind g [.ref (a 0), .int p1] (wS g a u) (some (.int o1)) (wS g a u) 0 0 := by
  refine KM.of (nL := 5) (by decide) rfl (Nat.le_of_ble_eq_true rfl) ?_
  intro p e s m args below meth c A ls C X hl
  have C : CT g p s m args meth c RX3 cX3_crossingsBehind 5 (some .int) wsX3_crossingsBehind A := C
  have hx := C.1
  have hb := C.2.1
  have hl : lv_has ls 5 [(0, .ref (a 0)), (1, .int p1)] := hl
  rw [fX3_crossingsBehind] at hm
  refine lv_aload_n hx hb dX3_crossingsBehind_0 rfl (lv_at hl 0 rfl) ?_
  refine lv_iload_n hx hb dX3_crossingsBehind_1 rfl (lv_at hl 1 rfl) ?_
  obtain ⟨r1, hcl, hm⟩ := bnd hm
  refine kVW C X (kX3_keptBefore l g a p1 u r1 hcl) (cw_X3_crossingsBehind_X3_keptBefore_79 C) 0 (ci := 3) rfl rfl (As := [.int p1]) rfl hl (rest := []) rfl (Nat.le_of_ble_eq_true rfl) (st2 := [.int r1]) rfl dX3_crossingsBehind_2 ⟨Nat.le_of_ble_eq_true rfl, Nat.le_of_ble_eq_true rfl⟩ (fun H locs X => ?_)
  clear hcl
  refine lv_istore_n (lv' := [(2, .int r1), (0, .ref (a 0)), (1, .int p1)]) hx hb dX3_crossingsBehind_5 rfl hl (by decide) rfl (fun ls hl => ?_)
  refine lv_iconst (v := 0) hx hb dX3_crossingsBehind_6 (by decide) ?_
  refine lv_istore_n (lv' := [(3, .int 0), (2, .int r1), (0, .ref (a 0)), (1, .int p1)]) hx hb dX3_crossingsBehind_7 rfl hl (by decide) rfl (fun ls hl => ?_)
  refine lv_iload_n hx hb dX3_crossingsBehind_8 rfl (lv_at hl 3 rfl) ?_
  refine lv_iconst (v := 1) hx hb dX3_crossingsBehind_9 (by decide) ?_
  refine lv_iadd hx hb dX3_crossingsBehind_10 ?_
  refine lv_istore (lv' := [(4, .int (p1 + 1)), (3, .int 0), (2, .int r1), (0, .ref (a 0)), (1, .int p1)]) hx hb dX3_crossingsBehind_11 hl (by decide) rfl (fun ls hl => ?_)
  obtain ⟨y14, hL, hm⟩ := bnd hm
  obtain ⟨nn, hn⟩ := lp_run hL
  refine tX3_crossingsBehind_13 a C p1 r1 u y14 (fun H locs ls X hl => ?_) nn _ _ hn _ _ _ X (lv_sub hl [3, 4, 2, 1, 0] rfl)
  clear hL hn
  refine lv_iload_n hx hb dX3_crossingsBehind_59 rfl (lv_at hl 0 rfl) ?_
  cases sm hm
  exact kiret C X dX3_crossingsBehind_60
-- X3 BrushStrokes$Stroke.countCrossings()I
abbrev rX3_countCrossings : Room := { frames := 5, cells := 0, slots := 0, locals := 121 }
theorem fl_X3_countCrossings_15 : (Cond.fieldLink RX3 15 "BrushStrokes$Stroke" "size" "I") ∈ wsX3_countCrossings := by decide +kernel
theorem in_X3_countCrossings_X3 : ∀ w ∈ u_ws RX3 TX3 3, w ∈ wsX3_countCrossings := by decide +kernel
theorem cw_X3_countCrossings_X3_isKept_52 {p : Program} {s : State} {m : MethodId} {args : Array Value} {meth : Method} {c : Code} {g : kG} {A : Nat → Prop} (C : CT g p s m args meth c RX3 cX3_countCrossings 3 (some .int) wsX3_countCrossings A) : CallW rX3_countCrossings s args RX3 RX3 52 yX3_isKept cX3_isKept 2 (some .boolean) wsX3_isKept rX3_isKept 0 0 1 := cwV 1 C.2.2.2.2.2.1 gX3_countCrossings_X3_isKept rfl rfl rfl (by decide +kernel) ⟨Nat.le_of_ble_eq_true rfl, Nat.le_of_ble_eq_true rfl⟩
theorem cw_X3_countCrossings_X3_crossingsBehind_105 {p : Program} {s : State} {m : MethodId} {args : Array Value} {meth : Method} {c : Code} {g : kG} {A : Nat → Prop} (C : CT g p s m args meth c RX3 cX3_countCrossings 3 (some .int) wsX3_countCrossings A) : CallW rX3_countCrossings s args RX3 RX3 105 yX3_crossingsBehind cX3_crossingsBehind 5 (some .int) wsX3_crossingsBehind rX3_crossingsBehind 0 0 1 := cwV 1 C.2.2.2.2.2.1 gX3_countCrossings_X3_crossingsBehind rfl rfl rfl (by decide +kernel) ⟨Nat.le_of_ble_eq_true rfl, Nat.le_of_ble_eq_true rfl⟩
noncomputable def bX3_countCrossings_4 (w3 : SS) : Int32 × Int32 → Option ((Int32 × Int32) ⊕ (Int32))
  | (x1, x2) => if (S_size w3) ≤ x2 then (some (.inr x1)) else ((fX3_isKept x2 w3).bind fun r5 => ((if r5 = 0 then (some x1) else ((fX3_crossingsBehind x2 w3).bind fun r8 => some (x1 + r8))) : Option (Int32)).bind fun v7 => some (.inl (v7, x2 + 1)))
noncomputable def lX3_countCrossings_4 (w3 : SS) (x1 : Int32) (x2 : Int32) : Option (Int32) := lp (bX3_countCrossings_4 w3) (x1, x2)
theorem lX3_countCrossings_4_eq (w3 : SS) (x1 : Int32) (x2 : Int32) : lX3_countCrossings_4 w3 x1 x2 = (if (S_size w3) ≤ x2 then (some (.inr x1)) else ((fX3_isKept x2 w3).bind fun r5 => ((if r5 = 0 then (some x1) else ((fX3_crossingsBehind x2 w3).bind fun r8 => some (x1 + r8))) : Option (Int32)).bind fun v7 => some (.inl (v7, x2 + 1)))).bind fun r => Sum.elim (fun z => lX3_countCrossings_4 w3 z.1 z.2) (fun r => some r) r := lp_eq (bX3_countCrossings_4 w3) (x1, x2)
set_option maxRecDepth 100000 in
set_option maxHeartbeats 4000000 in
theorem tX3_countCrossings_4 {p : Program} {l : Launch} {e : Env} {s : State} {m : MethodId} {args : Array Value} {below : List Frame} {meth : Method} {c : Code} {g : kG} {A : Nat → Prop} {Q : State → Prop} (a : Nat → Nat) (C : CT g p s m args meth c RX3 cX3_countCrossings 3 (some .int) wsX3_countCrossings A) (w3 : SS) (y4 : Int32) (kk : ∀ (H : Heap) (locs : List Loc) (ls : Array Slot), ST g A s H locs (wS g a w3) → lv_has ls 3 [(1, .int y4)] → W p l e rX3_countCrossings s m args below meth c H locs 0 0 Q (F0 m 34 ls [])) : ∀ (n : Nat) (x1 : Int32) (x2 : Int32), whl (bX3_countCrossings_4 w3) n (x1, x2) = some y4 → ∀ (H : Heap) (locs : List Loc) (ls : Array Slot), ST g A s H locs (wS g a w3) → lv_has ls 3 [(0, .ref (a 0)), (1, .int x1), (2, .int x2)] → W p l e rX3_countCrossings s m args below meth c H locs 0 0 Q (F0 m 4 ls []) := by
  have hx := C.1
  have hb := C.2.1
  have hinX3 := in_X3_countCrossings_X3
  have hf15 := C.2.2.2.2.2.1 _ fl_X3_countCrossings_15
  intro n
  induction n with
  | zero =>
    intro x1 x2 hm
    cases hm
  | succ n ih =>
    intro x1 x2 hm H locs ls X hl
    rw [whl] at hm
    obtain ⟨q, hq, hm2⟩ := bnd hm
    clear hm
    have hm := hq
    clear hq
    rw [bX3_countCrossings_4] at hm
    refine lv_iload_n hx hb dX3_countCrossings_4 rfl (lv_at hl 2 rfl) ?_
    refine lv_aload_n hx hb dX3_countCrossings_5 rfl (lv_at hl 0 rfl) ?_
    refine kget C X 0 (ci := 3) rfl rfl hinX3 1 (by decide) hf15 (v := .int (S_size w3)) rfl dX3_countCrossings_6 ?_
    refine lv_icmp_ge (tgt := 34) hx hb dX3_countCrossings_9 (by decide) (fun hc => ?_) (fun hc => ?_)
    · have hm := ifp hc hm
      cases sm hm
      cases sm hm2
      exact kk _ _ _ X (lv_sub hl [1] rfl)
    · have hm := ifn hc hm
      refine lv_aload_n hx hb dX3_countCrossings_12 rfl (lv_at hl 0 rfl) ?_
      refine lv_iload_n hx hb dX3_countCrossings_13 rfl (lv_at hl 2 rfl) ?_
      obtain ⟨r5, hcl, hm⟩ := bnd hm
      refine kVW C X (kX3_isKept l g a x2 w3 r5 hcl) (cw_X3_countCrossings_X3_isKept_52 C) 0 (ci := 3) rfl rfl (As := [.int x2]) rfl hl (rest := []) rfl (Nat.le_of_ble_eq_true rfl) (st2 := [.int r5]) rfl dX3_countCrossings_14 ⟨Nat.le_of_ble_eq_true rfl, Nat.le_of_ble_eq_true rfl⟩ (fun H locs X => ?_)
      clear hcl
      obtain ⟨v7, hE, hm⟩ := bnd hm
      have K : ∀ (H : Heap) (locs : List Loc) (ls : Array Slot), ST g A s H locs (wS g a w3) → lv_has ls 3 [(0, .ref (a 0)), (1, .int v7), (2, .int x2)] → W p l e rX3_countCrossings s m args below meth c H locs 0 0 Q (F0 m 28 ls []) := by
        intro H locs ls X hl
        clear hE
        refine lv_iinc (v := x2 + 1) (lv' := [(2, .int (x2 + 1)), (0, .ref (a 0)), (1, .int v7)]) hx hb dX3_countCrossings_28 hl (k := 2) rfl rfl (by decide) rfl (fun ls hl => ?_)
        refine lv_goto (tgt := 4) hx hb dX3_countCrossings_31 (by decide) ?_
        cases sm hm
        exact ih _ _ hm2 _ _ _ X (lv_sub hl [1, 2, 0] rfl)
      clear hm
      have hm := hE
      clear hE
      refine lv_if_eq (tgt := 28) hx hb dX3_countCrossings_17 (by decide) (fun hc => ?_) (fun hc => ?_)
      · have hm := ifp hc hm
        cases sm hm
        exact K _ _ _ X (lv_sub hl [0, 1, 2] rfl)
      · have hm := ifn hc hm
        refine lv_iload_n hx hb dX3_countCrossings_20 rfl (lv_at hl 1 rfl) ?_
        refine lv_aload_n hx hb dX3_countCrossings_21 rfl (lv_at hl 0 rfl) ?_
        refine lv_iload_n hx hb dX3_countCrossings_22 rfl (lv_at hl 2 rfl) ?_
        obtain ⟨r8, hcl, hm⟩ := bnd hm
        refine kVW C X (kX3_crossingsBehind l g a x2 w3 r8 hcl) (cw_X3_countCrossings_X3_crossingsBehind_105 C) 0 (ci := 3) rfl rfl (As := [.int x2]) rfl hl (rest := [.int x1]) rfl (Nat.le_of_ble_eq_true rfl) (st2 := [.int r8, .int x1]) rfl dX3_countCrossings_23 ⟨Nat.le_of_ble_eq_true rfl, Nat.le_of_ble_eq_true rfl⟩ (fun H locs X => ?_)
        clear hcl
        refine lv_iadd hx hb dX3_countCrossings_26 ?_
        refine lv_istore_n (lv' := [(1, .int (x1 + r8)), (0, .ref (a 0)), (2, .int x2)]) hx hb dX3_countCrossings_27 rfl hl (by decide) rfl (fun ls hl => ?_)
        cases sm hm
        exact K _ _ _ X (lv_sub hl [1, 0, 2] rfl)
noncomputable def fX3_countCrossings (u : SS) : Option (Int32) := (lX3_countCrossings_4 u 0 1).bind fun y9 => some y9
set_option maxRecDepth 100000 in
set_option maxHeartbeats 4000000 in
theorem kX3_countCrossings (l : Launch) (g : kG) (a : Nat → Nat) (u : SS) (o1 : Int32) (hm : fX3_countCrossings u = some o1) : KM l yX3_countCrossings wsX3_countCrossings rX3_countCrossings g [.ref (a 0)] (wS g a u) (some (.int o1)) (wS g a u) 0 0 := by
  refine KM.of (nL := 3) (by decide) rfl (Nat.le_of_ble_eq_true rfl) ?_
  intro p e s m args below meth c A ls C X hl
  have C : CT g p s m args meth c RX3 cX3_countCrossings 3 (some .int) wsX3_countCrossings A := C
  have hx := C.1
  have hb := C.2.1
  have hl : lv_has ls 3 [(0, .ref (a 0))] := hl
  rw [fX3_countCrossings] at hm
  refine lv_iconst (v := 0) hx hb dX3_countCrossings_0 (by decide) ?_
  refine lv_istore_n (lv' := [(1, .int 0), (0, .ref (a 0))]) hx hb dX3_countCrossings_1 rfl hl (by decide) rfl (fun ls hl => ?_)
  refine lv_iconst (v := 1) hx hb dX3_countCrossings_2 (by decide) ?_
  refine lv_istore_n (lv' := [(2, .int 1), (1, .int 0), (0, .ref (a 0))]) hx hb dX3_countCrossings_3 rfl hl (by decide) rfl (fun ls hl => ?_)
  obtain ⟨y9, hL, hm⟩ := bnd hm
  obtain ⟨nn, hn⟩ := lp_run hL
  refine tX3_countCrossings_4 a C u y9 (fun H locs ls X hl => ?_) nn _ _ hn _ _ _ X (lv_sub hl [2, 1, 0] rfl)
  clear hL hn
  refine lv_iload_n hx hb dX3_countCrossings_34 rfl (lv_at hl 0 rfl) ?_
  cases sm hm
  exact kiret C X dX3_countCrossings_35
-- X3 BrushStrokes$Stroke.spanX()I
abbrev rX3_spanX : Room := { frames := 1, cells := 0, slots := 0, locals := 22 }
theorem fl_X3_spanX_15 : (Cond.fieldLink RX3 15 "BrushStrokes$Stroke" "size" "I") ∈ wsX3_spanX := by decide +kernel
theorem in_X3_spanX_X3 : ∀ w ∈ u_ws RX3 TX3 3, w ∈ wsX3_spanX := by decide +kernel
theorem ml_X3_spanX_117 : (Cond.methodLink RX3 117 Lib.Math.min.name) ∈ wsX3_spanX ∧ (Cond.static Lib.Math.min.name) ∈ wsX3_spanX ∧ (Cond.initialized "java/lang/Math") ∈ wsX3_spanX ∧ (Cond.code Lib.Math.min.name Lib.Math.min.code 2 (some .int)) ∈ wsX3_spanX := by decide +kernel
theorem ml_X3_spanX_121 : (Cond.methodLink RX3 121 Lib.Math.max.name) ∈ wsX3_spanX ∧ (Cond.static Lib.Math.max.name) ∈ wsX3_spanX ∧ (Cond.initialized "java/lang/Math") ∈ wsX3_spanX ∧ (Cond.code Lib.Math.max.name Lib.Math.max.code 2 (some .int)) ∈ wsX3_spanX := by decide +kernel
theorem cw_X3_spanX_X3_x_43 {p : Program} {s : State} {m : MethodId} {args : Array Value} {meth : Method} {c : Code} {g : kG} {A : Nat → Prop} (C : CT g p s m args meth c RX3 cX3_spanX 4 (some .int) wsX3_spanX A) : CallW rX3_spanX s args RX3 RX3 43 yX3_x cX3_x 3 (some .int) wsX3_x rX3_x 0 0 1 := cwV 1 C.2.2.2.2.2.1 gX3_spanX_X3_x rfl rfl rfl (by decide +kernel) ⟨Nat.le_of_ble_eq_true rfl, Nat.le_of_ble_eq_true rfl⟩
noncomputable def bX3_spanX_14 (w6 : SS) : Int32 × Int32 × Int32 → Option ((Int32 × Int32 × Int32) ⊕ (Int32 × Int32))
  | (x3, x4, x5) => if (S_size w6) ≤ x5 then (some (.inr (x3, x4))) else ((fX3_x x5 w6).bind fun r9 => (fX3_x x5 w6).bind fun r10 => some (.inl ((if r9 < x3 then r9 else x3), (if x4 < r10 then r10 else x4), x5 + 1)))
noncomputable def lX3_spanX_14 (w6 : SS) (x3 : Int32) (x4 : Int32) (x5 : Int32) : Option (Int32 × Int32) := lp (bX3_spanX_14 w6) (x3, x4, x5)
theorem lX3_spanX_14_eq (w6 : SS) (x3 : Int32) (x4 : Int32) (x5 : Int32) : lX3_spanX_14 w6 x3 x4 x5 = (if (S_size w6) ≤ x5 then (some (.inr (x3, x4))) else ((fX3_x x5 w6).bind fun r9 => (fX3_x x5 w6).bind fun r10 => some (.inl ((if r9 < x3 then r9 else x3), (if x4 < r10 then r10 else x4), x5 + 1)))).bind fun r => Sum.elim (fun z => lX3_spanX_14 w6 z.1 z.2.1 z.2.2) (fun r => some r) r := lp_eq (bX3_spanX_14 w6) (x3, x4, x5)
set_option maxRecDepth 100000 in
set_option maxHeartbeats 4000000 in
theorem tX3_spanX_14 {p : Program} {l : Launch} {e : Env} {s : State} {m : MethodId} {args : Array Value} {below : List Frame} {meth : Method} {c : Code} {g : kG} {A : Nat → Prop} {Q : State → Prop} (a : Nat → Nat) (C : CT g p s m args meth c RX3 cX3_spanX 4 (some .int) wsX3_spanX A) (w6 : SS) (y7 : Int32) (y8 : Int32) (kk : ∀ (H : Heap) (locs : List Loc) (ls : Array Slot), ST g A s H locs (wS g a w6) → lv_has ls 4 [(1, .int y7), (2, .int y8)] → W p l e rX3_spanX s m args below meth c H locs 0 0 Q (F0 m 48 ls [])) : ∀ (n : Nat) (x3 : Int32) (x4 : Int32) (x5 : Int32), whl (bX3_spanX_14 w6) n (x3, x4, x5) = some (y7, y8) → ∀ (H : Heap) (locs : List Loc) (ls : Array Slot), ST g A s H locs (wS g a w6) → lv_has ls 4 [(0, .ref (a 0)), (1, .int x3), (2, .int x4), (3, .int x5)] → W p l e rX3_spanX s m args below meth c H locs 0 0 Q (F0 m 14 ls []) := by
  have hx := C.1
  have hb := C.2.1
  have hinX3 := in_X3_spanX_X3
  have hf15 := C.2.2.2.2.2.1 _ fl_X3_spanX_15
  intro n
  induction n with
  | zero =>
    intro x3 x4 x5 hm
    cases hm
  | succ n ih =>
    intro x3 x4 x5 hm H locs ls X hl
    rw [whl] at hm
    obtain ⟨q, hq, hm2⟩ := bnd hm
    clear hm
    have hm := hq
    clear hq
    rw [bX3_spanX_14] at hm
    refine lv_iload_n hx hb dX3_spanX_14 rfl (lv_at hl 3 rfl) ?_
    refine lv_aload_n hx hb dX3_spanX_15 rfl (lv_at hl 0 rfl) ?_
    refine kget C X 0 (ci := 3) rfl rfl hinX3 1 (by decide) hf15 (v := .int (S_size w6)) rfl dX3_spanX_16 ?_
    refine lv_icmp_ge (tgt := 48) hx hb dX3_spanX_19 (by decide) (fun hc => ?_) (fun hc => ?_)
    · have hm := ifp hc hm
      cases sm hm
      cases sm hm2
      exact kk _ _ _ X (lv_sub hl [1, 2] rfl)
    · have hm := ifn hc hm
      refine lv_iload_n hx hb dX3_spanX_22 rfl (lv_at hl 1 rfl) ?_
      refine lv_aload_n hx hb dX3_spanX_23 rfl (lv_at hl 0 rfl) ?_
      refine lv_iload_n hx hb dX3_spanX_24 rfl (lv_at hl 3 rfl) ?_
      obtain ⟨r9, hcl, hm⟩ := bnd hm
      refine kVW C X (kX3_x l g a x5 w6 r9 hcl) (cw_X3_spanX_X3_x_43 C) 0 (ci := 3) rfl rfl (As := [.int x5]) rfl hl (rest := [.int x3]) rfl (Nat.le_of_ble_eq_true rfl) (st2 := [.int r9, .int x3]) rfl dX3_spanX_25 ⟨Nat.le_of_ble_eq_true rfl, Nat.le_of_ble_eq_true rfl⟩ (fun H locs X => ?_)
      clear hcl
      refine va_mmin hx hb (C.2.2.2.1.trans hl.1.symm) C.2.2.2.2.1 (C.2.2.2.2.2.1 _ ml_X3_spanX_117.1) (C.2.2.2.2.2.1 _ ml_X3_spanX_117.2.1) (C.2.2.2.2.2.1 _ ml_X3_spanX_117.2.2.1) (C.2.2.2.2.2.1 _ ml_X3_spanX_117.2.2.2) (Nat.le_of_ble_eq_true rfl) (Nat.le_of_ble_eq_true rfl) (Nat.le_of_ble_eq_true rfl) (Nat.le_of_ble_eq_true rfl) dX3_spanX_28 ?_
      refine lv_istore_n (lv' := [(1, .int (if r9 < x3 then r9 else x3)), (0, .ref (a 0)), (2, .int x4), (3, .int x5)]) hx hb dX3_spanX_31 rfl hl (by decide) rfl (fun ls hl => ?_)
      refine lv_iload_n hx hb dX3_spanX_32 rfl (lv_at hl 2 rfl) ?_
      refine lv_aload_n hx hb dX3_spanX_33 rfl (lv_at hl 1 rfl) ?_
      refine lv_iload_n hx hb dX3_spanX_34 rfl (lv_at hl 3 rfl) ?_
      obtain ⟨r10, hcl, hm⟩ := bnd hm
      refine kVW C X (kX3_x l g a x5 w6 r10 hcl) (cw_X3_spanX_X3_x_43 C) 0 (ci := 3) rfl rfl (As := [.int x5]) rfl hl (rest := [.int x4]) rfl (Nat.le_of_ble_eq_true rfl) (st2 := [.int r10, .int x4]) rfl dX3_spanX_35 ⟨Nat.le_of_ble_eq_true rfl, Nat.le_of_ble_eq_true rfl⟩ (fun H locs X => ?_)
      clear hcl
      refine va_mmax hx hb (C.2.2.2.1.trans hl.1.symm) C.2.2.2.2.1 (C.2.2.2.2.2.1 _ ml_X3_spanX_121.1) (C.2.2.2.2.2.1 _ ml_X3_spanX_121.2.1) (C.2.2.2.2.2.1 _ ml_X3_spanX_121.2.2.1) (C.2.2.2.2.2.1 _ ml_X3_spanX_121.2.2.2) (Nat.le_of_ble_eq_true rfl) (Nat.le_of_ble_eq_true rfl) (Nat.le_of_ble_eq_true rfl) (Nat.le_of_ble_eq_true rfl) dX3_spanX_38 ?_
      refine lv_istore_n (lv' := [(2, .int (if x4 < r10 then r10 else x4)), (1, .int (if r9 < x3 then r9 else x3)), (0, .ref (a 0)), (3, .int x5)]) hx hb dX3_spanX_41 rfl hl (by decide) rfl (fun ls hl => ?_)
      refine lv_iinc (v := x5 + 1) (lv' := [(3, .int (x5 + 1)), (2, .int (if x4 < r10 then r10 else x4)), (1, .int (if r9 < x3 then r9 else x3)), (0, .ref (a 0))]) hx hb dX3_spanX_42 hl (k := 3) rfl rfl (by decide) rfl (fun ls hl => ?_)
      refine lv_goto (tgt := 14) hx hb dX3_spanX_45 (by decide) ?_
      cases sm hm
      exact ih _ _ _ hm2 _ _ _ X (lv_sub hl [3, 2, 1, 0] rfl)
noncomputable def fX3_spanX (u : SS) : Option (Int32) := (fX3_x 0 u).bind fun r1 => (fX3_x 0 u).bind fun r2 => (lX3_spanX_14 u r1 r2 1).bind fun (y11, y12) => some (y12 - y11)
set_option maxRecDepth 100000 in
set_option maxHeartbeats 4000000 in
theorem kX3_spanX (l : Launch) (g : kG) (a : Nat → Nat) (u : SS) (o1 : Int32) (hm : fX3_spanX u = some o1) : KM l yX3_spanX wsX3_spanX rX3_spanX g [.ref (a 0)] (wS g a u) (some (.int o1)) (wS g a u) 0 0 := by
  refine KM.of (nL := 4) (by decide) rfl (Nat.le_of_ble_eq_true rfl) ?_
  intro p e s m args below meth c A ls C X hl
  have C : CT g p s m args meth c RX3 cX3_spanX 4 (some .int) wsX3_spanX A := C
  have hx := C.1
  have hb := C.2.1
  have hl : lv_has ls 4 [(0, .ref (a 0))] := hl
  rw [fX3_spanX] at hm
  refine lv_aload_n hx hb dX3_spanX_0 rfl (lv_at hl 0 rfl) ?_
  refine lv_iconst (v := 0) hx hb dX3_spanX_1 (by decide) ?_
  obtain ⟨r1, hcl, hm⟩ := bnd hm
  refine kVW C X (kX3_x l g a 0 u r1 hcl) (cw_X3_spanX_X3_x_43 C) 0 (ci := 3) rfl rfl (As := [.int 0]) rfl hl (rest := []) rfl (Nat.le_of_ble_eq_true rfl) (st2 := [.int r1]) rfl dX3_spanX_2 ⟨Nat.le_of_ble_eq_true rfl, Nat.le_of_ble_eq_true rfl⟩ (fun H locs X => ?_)
  clear hcl
  refine lv_istore_n (lv' := [(1, .int r1), (0, .ref (a 0))]) hx hb dX3_spanX_5 rfl hl (by decide) rfl (fun ls hl => ?_)
  refine lv_aload_n hx hb dX3_spanX_6 rfl (lv_at hl 1 rfl) ?_
  refine lv_iconst (v := 0) hx hb dX3_spanX_7 (by decide) ?_
  obtain ⟨r2, hcl, hm⟩ := bnd hm
  refine kVW C X (kX3_x l g a 0 u r2 hcl) (cw_X3_spanX_X3_x_43 C) 0 (ci := 3) rfl rfl (As := [.int 0]) rfl hl (rest := []) rfl (Nat.le_of_ble_eq_true rfl) (st2 := [.int r2]) rfl dX3_spanX_8 ⟨Nat.le_of_ble_eq_true rfl, Nat.le_of_ble_eq_true rfl⟩ (fun H locs X => ?_)
  clear hcl
  refine lv_istore_n (lv' := [(2, .int r2), (1, .int r1), (0, .ref (a 0))]) hx hb dX3_spanX_11 rfl hl (by decide) rfl (fun ls hl => ?_)
  refine lv_iconst (v := 1) hx hb dX3_spanX_12 (by decide) ?_
  refine lv_istore_n (lv' := [(3, .int 1), (2, .int r2), (1, .int r1), (0, .ref (a 0))]) hx hb dX3_spanX_13 rfl hl (by decide) rfl (fun ls hl => ?_)
  obtain ⟨⟨y11, y12⟩, hL, hm⟩ := bnd hm
  obtain ⟨nn, hn⟩ := lp_run hL
  refine tX3_spanX_14 a C u y11 y12 (fun H locs ls X hl => ?_) nn _ _ _ hn _ _ _ X (lv_sub hl [3, 2, 1, 0] rfl)
  clear hL hn
  refine lv_iload_n hx hb dX3_spanX_48 rfl (lv_at hl 1 rfl) ?_
  refine lv_iload_n hx hb dX3_spanX_49 rfl (lv_at hl 0 rfl) ?_
  refine lv_isub hx hb dX3_spanX_50 ?_
  cases sm hm
  exact kiret C X dX3_spanX_51
-- X3 BrushStrokes$Stroke.spanY()I
abbrev rX3_spanY : Room := { frames := 1, cells := 0, slots := 0, locals := 22 }
theorem fl_X3_spanY_15 : (Cond.fieldLink RX3 15 "BrushStrokes$Stroke" "size" "I") ∈ wsX3_spanY := by decide +kernel
theorem in_X3_spanY_X3 : ∀ w ∈ u_ws RX3 TX3 3, w ∈ wsX3_spanY := by decide +kernel
theorem ml_X3_spanY_117 : (Cond.methodLink RX3 117 Lib.Math.min.name) ∈ wsX3_spanY ∧ (Cond.static Lib.Math.min.name) ∈ wsX3_spanY ∧ (Cond.initialized "java/lang/Math") ∈ wsX3_spanY ∧ (Cond.code Lib.Math.min.name Lib.Math.min.code 2 (some .int)) ∈ wsX3_spanY := by decide +kernel
theorem ml_X3_spanY_121 : (Cond.methodLink RX3 121 Lib.Math.max.name) ∈ wsX3_spanY ∧ (Cond.static Lib.Math.max.name) ∈ wsX3_spanY ∧ (Cond.initialized "java/lang/Math") ∈ wsX3_spanY ∧ (Cond.code Lib.Math.max.name Lib.Math.max.code 2 (some .int)) ∈ wsX3_spanY := by decide +kernel
theorem cw_X3_spanY_X3_y_46 {p : Program} {s : State} {m : MethodId} {args : Array Value} {meth : Method} {c : Code} {g : kG} {A : Nat → Prop} (C : CT g p s m args meth c RX3 cX3_spanY 4 (some .int) wsX3_spanY A) : CallW rX3_spanY s args RX3 RX3 46 yX3_y cX3_y 3 (some .int) wsX3_y rX3_y 0 0 1 := cwV 1 C.2.2.2.2.2.1 gX3_spanY_X3_y rfl rfl rfl (by decide +kernel) ⟨Nat.le_of_ble_eq_true rfl, Nat.le_of_ble_eq_true rfl⟩
noncomputable def bX3_spanY_14 (w6 : SS) : Int32 × Int32 × Int32 → Option ((Int32 × Int32 × Int32) ⊕ (Int32 × Int32))
  | (x3, x4, x5) => if (S_size w6) ≤ x5 then (some (.inr (x3, x4))) else ((fX3_y x5 w6).bind fun r9 => (fX3_y x5 w6).bind fun r10 => some (.inl ((if r9 < x3 then r9 else x3), (if x4 < r10 then r10 else x4), x5 + 1)))
noncomputable def lX3_spanY_14 (w6 : SS) (x3 : Int32) (x4 : Int32) (x5 : Int32) : Option (Int32 × Int32) := lp (bX3_spanY_14 w6) (x3, x4, x5)
theorem lX3_spanY_14_eq (w6 : SS) (x3 : Int32) (x4 : Int32) (x5 : Int32) : lX3_spanY_14 w6 x3 x4 x5 = (if (S_size w6) ≤ x5 then (some (.inr (x3, x4))) else ((fX3_y x5 w6).bind fun r9 => (fX3_y x5 w6).bind fun r10 => some (.inl ((if r9 < x3 then r9 else x3), (if x4 < r10 then r10 else x4), x5 + 1)))).bind fun r => Sum.elim (fun z => lX3_spanY_14 w6 z.1 z.2.1 z.2.2) (fun r => some r) r := lp_eq (bX3_spanY_14 w6) (x3, x4, x5)
set_option maxRecDepth 100000 in
set_option maxHeartbeats 4000000 in
theorem tX3_spanY_14 {p : Program} {l : Launch} {e : Env} {s : State} {m : MethodId} {args : Array Value} {below : List Frame} {meth : Method} {c : Code} {g : kG} {A : Nat → Prop} {Q : State → Prop} (a : Nat → Nat) (C : CT g p s m args meth c RX3 cX3_spanY 4 (some .int) wsX3_spanY A) (w6 : SS) (y7 : Int32) (y8 : Int32) (kk : ∀ (H : Heap) (locs : List Loc) (ls : Array Slot), ST g A s H locs (wS g a w6) → lv_has ls 4 [(1, .int y7), (2, .int y8)] → W p l e rX3_spanY s m args below meth c H locs 0 0 Q (F0 m 48 ls [])) : ∀ (n : Nat) (x3 : Int32) (x4 : Int32) (x5 : Int32), whl (bX3_spanY_14 w6) n (x3, x4, x5) = some (y7, y8) → ∀ (H : Heap) (locs : List Loc) (ls : Array Slot), ST g A s H locs (wS g a w6) → lv_has ls 4 [(0, .ref (a 0)), (1, .int x3), (2, .int x4), (3, .int x5)] → W p l e rX3_spanY s m args below meth c H locs 0 0 Q (F0 m 14 ls []) := by
  have hx := C.1
  have hb := C.2.1
  have hinX3 := in_X3_spanY_X3
  have hf15 := C.2.2.2.2.2.1 _ fl_X3_spanY_15
  intro n
  induction n with
  | zero =>
    intro x3 x4 x5 hm
    cases hm
  | succ n ih =>
    intro x3 x4 x5 hm H locs ls X hl
    rw [whl] at hm
    obtain ⟨q, hq, hm2⟩ := bnd hm
    clear hm
    have hm := hq
    clear hq
    rw [bX3_spanY_14] at hm
    refine lv_iload_n hx hb dX3_spanY_14 rfl (lv_at hl 3 rfl) ?_
    refine lv_aload_n hx hb dX3_spanY_15 rfl (lv_at hl 0 rfl) ?_
    refine kget C X 0 (ci := 3) rfl rfl hinX3 1 (by decide) hf15 (v := .int (S_size w6)) rfl dX3_spanY_16 ?_
    refine lv_icmp_ge (tgt := 48) hx hb dX3_spanY_19 (by decide) (fun hc => ?_) (fun hc => ?_)
    · have hm := ifp hc hm
      cases sm hm
      cases sm hm2
      exact kk _ _ _ X (lv_sub hl [1, 2] rfl)
    · have hm := ifn hc hm
      refine lv_iload_n hx hb dX3_spanY_22 rfl (lv_at hl 1 rfl) ?_
      refine lv_aload_n hx hb dX3_spanY_23 rfl (lv_at hl 0 rfl) ?_
      refine lv_iload_n hx hb dX3_spanY_24 rfl (lv_at hl 3 rfl) ?_
      obtain ⟨r9, hcl, hm⟩ := bnd hm
      refine kVW C X (kX3_y l g a x5 w6 r9 hcl) (cw_X3_spanY_X3_y_46 C) 0 (ci := 3) rfl rfl (As := [.int x5]) rfl hl (rest := [.int x3]) rfl (Nat.le_of_ble_eq_true rfl) (st2 := [.int r9, .int x3]) rfl dX3_spanY_25 ⟨Nat.le_of_ble_eq_true rfl, Nat.le_of_ble_eq_true rfl⟩ (fun H locs X => ?_)
      clear hcl
      refine va_mmin hx hb (C.2.2.2.1.trans hl.1.symm) C.2.2.2.2.1 (C.2.2.2.2.2.1 _ ml_X3_spanY_117.1) (C.2.2.2.2.2.1 _ ml_X3_spanY_117.2.1) (C.2.2.2.2.2.1 _ ml_X3_spanY_117.2.2.1) (C.2.2.2.2.2.1 _ ml_X3_spanY_117.2.2.2) (Nat.le_of_ble_eq_true rfl) (Nat.le_of_ble_eq_true rfl) (Nat.le_of_ble_eq_true rfl) (Nat.le_of_ble_eq_true rfl) dX3_spanY_28 ?_
      refine lv_istore_n (lv' := [(1, .int (if r9 < x3 then r9 else x3)), (0, .ref (a 0)), (2, .int x4), (3, .int x5)]) hx hb dX3_spanY_31 rfl hl (by decide) rfl (fun ls hl => ?_)
      refine lv_iload_n hx hb dX3_spanY_32 rfl (lv_at hl 2 rfl) ?_
      refine lv_aload_n hx hb dX3_spanY_33 rfl (lv_at hl 1 rfl) ?_
      refine lv_iload_n hx hb dX3_spanY_34 rfl (lv_at hl 3 rfl) ?_
      obtain ⟨r10, hcl, hm⟩ := bnd hm
      refine kVW C X (kX3_y l g a x5 w6 r10 hcl) (cw_X3_spanY_X3_y_46 C) 0 (ci := 3) rfl rfl (As := [.int x5]) rfl hl (rest := [.int x4]) rfl (Nat.le_of_ble_eq_true rfl) (st2 := [.int r10, .int x4]) rfl dX3_spanY_35 ⟨Nat.le_of_ble_eq_true rfl, Nat.le_of_ble_eq_true rfl⟩ (fun H locs X => ?_)
      clear hcl
      refine va_mmax hx hb (C.2.2.2.1.trans hl.1.symm) C.2.2.2.2.1 (C.2.2.2.2.2.1 _ ml_X3_spanY_121.1) (C.2.2.2.2.2.1 _ ml_X3_spanY_121.2.1) (C.2.2.2.2.2.1 _ ml_X3_spanY_121.2.2.1) (C.2.2.2.2.2.1 _ ml_X3_spanY_121.2.2.2) (Nat.le_of_ble_eq_true rfl) (Nat.le_of_ble_eq_true rfl) (Nat.le_of_ble_eq_true rfl) (Nat.le_of_ble_eq_true rfl) dX3_spanY_38 ?_
      refine lv_istore_n (lv' := [(2, .int (if x4 < r10 then r10 else x4)), (1, .int (if r9 < x3 then r9 else x3)), (0, .ref (a 0)), (3, .int x5)]) hx hb dX3_spanY_41 rfl hl (by decide) rfl (fun ls hl => ?_)
      refine lv_iinc (v := x5 + 1) (lv' := [(3, .int (x5 + 1)), (2, .int (if x4 < r10 then r10 else x4)), (1, .int (if r9 < x3 then r9 else x3)), (0, .ref (a 0))]) hx hb dX3_spanY_42 hl (k := 3) rfl rfl (by decide) rfl (fun ls hl => ?_)
      refine lv_goto (tgt := 14) hx hb dX3_spanY_45 (by decide) ?_
      cases sm hm
      exact ih _ _ _ hm2 _ _ _ X (lv_sub hl [3, 2, 1, 0] rfl)
noncomputable def fX3_spanY (u : SS) : Option (Int32) := (fX3_y 0 u).bind fun r1 => (fX3_y 0 u).bind fun r2 => (lX3_spanY_14 u r1 r2 1).bind fun (y11, y12) => some (y12 - y11)
set_option maxRecDepth 100000 in
set_option maxHeartbeats 4000000 in
theorem kX3_spanY (l : Launch) (g : kG) (a : Nat → Nat) (u : SS) (o1 : Int32) (hm : fX3_spanY u = some o1) : KM l yX3_spanY wsX3_spanY rX3_spanY g [.ref (a 0)] (wS g a u) (some (.int o1)) (wS g a u) 0 0 := by
  refine KM.of (nL := 4) (by decide) rfl (Nat.le_of_ble_eq_true rfl) ?_
  intro p e s m args below meth c A ls C X hl
  have C : CT g p s m args meth c RX3 cX3_spanY 4 (some .int) wsX3_spanY A := C
  have hx := C.1
  have hb := C.2.1
  have hl : lv_has ls 4 [(0, .ref (a 0))] := hl
  rw [fX3_spanY] at hm
  refine lv_aload_n hx hb dX3_spanY_0 rfl (lv_at hl 0 rfl) ?_
  refine lv_iconst (v := 0) hx hb dX3_spanY_1 (by decide) ?_
  obtain ⟨r1, hcl, hm⟩ := bnd hm
  refine kVW C X (kX3_y l g a 0 u r1 hcl) (cw_X3_spanY_X3_y_46 C) 0 (ci := 3) rfl rfl (As := [.int 0]) rfl hl (rest := []) rfl (Nat.le_of_ble_eq_true rfl) (st2 := [.int r1]) rfl dX3_spanY_2 ⟨Nat.le_of_ble_eq_true rfl, Nat.le_of_ble_eq_true rfl⟩ (fun H locs X => ?_)
  clear hcl
  refine lv_istore_n (lv' := [(1, .int r1), (0, .ref (a 0))]) hx hb dX3_spanY_5 rfl hl (by decide) rfl (fun ls hl => ?_)
  refine lv_aload_n hx hb dX3_spanY_6 rfl (lv_at hl 1 rfl) ?_
  refine lv_iconst (v := 0) hx hb dX3_spanY_7 (by decide) ?_
  obtain ⟨r2, hcl, hm⟩ := bnd hm
  refine kVW C X (kX3_y l g a 0 u r2 hcl) (cw_X3_spanY_X3_y_46 C) 0 (ci := 3) rfl rfl (As := [.int 0]) rfl hl (rest := []) rfl (Nat.le_of_ble_eq_true rfl) (st2 := [.int r2]) rfl dX3_spanY_8 ⟨Nat.le_of_ble_eq_true rfl, Nat.le_of_ble_eq_true rfl⟩ (fun H locs X => ?_)
  clear hcl
  refine lv_istore_n (lv' := [(2, .int r2), (1, .int r1), (0, .ref (a 0))]) hx hb dX3_spanY_11 rfl hl (by decide) rfl (fun ls hl => ?_)
  refine lv_iconst (v := 1) hx hb dX3_spanY_12 (by decide) ?_
  refine lv_istore_n (lv' := [(3, .int 1), (2, .int r2), (1, .int r1), (0, .ref (a 0))]) hx hb dX3_spanY_13 rfl hl (by decide) rfl (fun ls hl => ?_)
  obtain ⟨⟨y11, y12⟩, hL, hm⟩ := bnd hm
  obtain ⟨nn, hn⟩ := lp_run hL
  refine tX3_spanY_14 a C u y11 y12 (fun H locs ls X hl => ?_) nn _ _ _ hn _ _ _ X (lv_sub hl [3, 2, 1, 0] rfl)
  clear hL hn
  refine lv_iload_n hx hb dX3_spanY_48 rfl (lv_at hl 1 rfl) ?_
  refine lv_iload_n hx hb dX3_spanY_49 rfl (lv_at hl 0 rfl) ?_
  refine lv_isub hx hb dX3_spanY_50 ?_
  cases sm hm
  exact kiret C X dX3_spanY_51
