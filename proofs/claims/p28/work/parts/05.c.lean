-- X3 BrushStrokes$Stroke.square(II)J
abbrev rX3_square : Room := { frames := 1, cells := 0, slots := 0, locals := 22 }
theorem cw_X3_square_X3_y_46 {p : Program} {s : State} {m : MethodId} {args : Array Value} {meth : Method} {c : Code} {g : kG} {A : Nat → Prop} (C : CT g p s m args meth c RX3 cX3_square 7 (some .long) wsX3_square A) : CallW rX3_square s args RX3 RX3 46 yX3_y cX3_y 3 (some .int) wsX3_y rX3_y 0 0 1 := cwV 1 C.2.2.2.2.2.1 gX3_square_X3_y rfl rfl rfl (by decide +kernel) ⟨Nat.le_of_ble_eq_true rfl, Nat.le_of_ble_eq_true rfl⟩
theorem cw_X3_square_X3_x_43 {p : Program} {s : State} {m : MethodId} {args : Array Value} {meth : Method} {c : Code} {g : kG} {A : Nat → Prop} (C : CT g p s m args meth c RX3 cX3_square 7 (some .long) wsX3_square A) : CallW rX3_square s args RX3 RX3 43 yX3_x cX3_x 3 (some .int) wsX3_x rX3_x 0 0 1 := cwV 1 C.2.2.2.2.2.1 gX3_square_X3_x rfl rfl rfl (by decide +kernel) ⟨Nat.le_of_ble_eq_true rfl, Nat.le_of_ble_eq_true rfl⟩
noncomputable def fX3_square (p1 : Int32) (p2 : Int32) (u : SS) : Option (Int64) := (fX3_x p2 u).bind fun r1 => (fX3_x p1 u).bind fun r2 => (fX3_y p2 u).bind fun r3 => (fX3_y p1 u).bind fun r4 => some ((((r1 - r2).toInt64) * ((r1 - r2).toInt64)) + (((r3 - r4).toInt64) * ((r3 - r4).toInt64)))
set_option maxRecDepth 100000 in
set_option maxHeartbeats 4000000 in
theorem kX3_square (l : Launch) (g : kG) (a : Nat → Nat) (p1 : Int32) (p2 : Int32) (u : SS) (o1 : Int64) (hm : fX3_square p1 p2 u = some o1) : KM l yX3_square wsX3_square rX3_square g [.ref (a 0), .int p1, .int p2] (wS g a u) (some (.long o1)) (wS g a u) 0 0 := by
  refine KM.of (nL := 7) (by decide) rfl (Nat.le_of_ble_eq_true rfl) ?_
  intro p e s m args below meth c A ls C X hl
  have C : CT g p s m args meth c RX3 cX3_square 7 (some .long) wsX3_square A := C
  have hx := C.1
  have hb := C.2.1
  have hl : lv_has ls 7 [(0, .ref (a 0)), (1, .int p1), (2, .int p2)] := hl
  rw [fX3_square] at hm
  refine lv_aload_n hx hb dX3_square_0 rfl (lv_at hl 0 rfl) ?_
  refine lv_iload_n hx hb dX3_square_1 rfl (lv_at hl 2 rfl) ?_
  obtain ⟨r1, hcl, hm⟩ := bnd hm
  refine kVW C X (kX3_x l g a p2 u r1 hcl) (cw_X3_square_X3_x_43 C) 0 (ci := 3) rfl rfl (As := [.int p2]) rfl hl (rest := []) rfl (Nat.le_of_ble_eq_true rfl) (st2 := [.int r1]) rfl dX3_square_2 ⟨Nat.le_of_ble_eq_true rfl, Nat.le_of_ble_eq_true rfl⟩ (fun H locs X => ?_)
  clear hcl
  refine lv_aload_n hx hb dX3_square_5 rfl (lv_at hl 0 rfl) ?_
  refine lv_iload_n hx hb dX3_square_6 rfl (lv_at hl 1 rfl) ?_
  obtain ⟨r2, hcl, hm⟩ := bnd hm
  refine kVW C X (kX3_x l g a p1 u r2 hcl) (cw_X3_square_X3_x_43 C) 0 (ci := 3) rfl rfl (As := [.int p1]) rfl hl (rest := [.int r1]) rfl (Nat.le_of_ble_eq_true rfl) (st2 := [.int r2, .int r1]) rfl dX3_square_7 ⟨Nat.le_of_ble_eq_true rfl, Nat.le_of_ble_eq_true rfl⟩ (fun H locs X => ?_)
  clear hcl
  refine lv_isub hx hb dX3_square_10 ?_
  refine lv_i2l (v := (r1 - r2).toInt64) hx hb dX3_square_11 rfl ?_
  refine lv_lstore_n (lv' := [(3, .long ((r1 - r2).toInt64)), (0, .ref (a 0)), (1, .int p1), (2, .int p2)]) hx hb dX3_square_12 rfl hl (by decide) rfl (fun ls hl => ?_)
  refine lv_aload_n hx hb dX3_square_13 rfl (lv_at hl 1 rfl) ?_
  refine lv_iload_n hx hb dX3_square_14 rfl (lv_at hl 3 rfl) ?_
  obtain ⟨r3, hcl, hm⟩ := bnd hm
  refine kVW C X (kX3_y l g a p2 u r3 hcl) (cw_X3_square_X3_y_46 C) 0 (ci := 3) rfl rfl (As := [.int p2]) rfl hl (rest := []) rfl (Nat.le_of_ble_eq_true rfl) (st2 := [.int r3]) rfl dX3_square_15 ⟨Nat.le_of_ble_eq_true rfl, Nat.le_of_ble_eq_true rfl⟩ (fun H locs X => ?_)
  clear hcl
  refine lv_aload_n hx hb dX3_square_18 rfl (lv_at hl 1 rfl) ?_
  refine lv_iload_n hx hb dX3_square_19 rfl (lv_at hl 2 rfl) ?_
  obtain ⟨r4, hcl, hm⟩ := bnd hm
  refine kVW C X (kX3_y l g a p1 u r4 hcl) (cw_X3_square_X3_y_46 C) 0 (ci := 3) rfl rfl (As := [.int p1]) rfl hl (rest := [.int r3]) rfl (Nat.le_of_ble_eq_true rfl) (st2 := [.int r4, .int r3]) rfl dX3_square_20 ⟨Nat.le_of_ble_eq_true rfl, Nat.le_of_ble_eq_true rfl⟩ (fun H locs X => ?_)
  clear hcl
  refine lv_isub hx hb dX3_square_23 ?_
  refine lv_i2l (v := (r3 - r4).toInt64) hx hb dX3_square_24 rfl ?_
  refine lv_lstore (lv' := [(5, .long ((r3 - r4).toInt64)), (3, .long ((r1 - r2).toInt64)), (0, .ref (a 0)), (1, .int p1), (2, .int p2)]) hx hb dX3_square_25 hl (by decide) rfl (fun ls hl => ?_)
  refine lv_lload_n hx hb dX3_square_27 rfl (lv_at hl 1 rfl) ?_
  refine lv_lload_n hx hb dX3_square_28 rfl (lv_at hl 1 rfl) ?_
  refine lv_lmul hx hb dX3_square_29 ?_
  refine lv_lload hx hb dX3_square_30 (lv_at hl 0 rfl) ?_
  refine lv_lload hx hb dX3_square_32 (lv_at hl 0 rfl) ?_
  refine lv_lmul hx hb dX3_square_34 ?_
  refine lv_ladd hx hb dX3_square_35 ?_
  cases sm hm
  exact klret C X dX3_square_36
-- X3 BrushStrokes$Stroke.productAt(III)J
abbrev rX3_productAt : Room := { frames := 1, cells := 0, slots := 0, locals := 22 }
theorem cw_X3_productAt_X3_x_43 {p : Program} {s : State} {m : MethodId} {args : Array Value} {meth : Method} {c : Code} {g : kG} {A : Nat → Prop} (C : CT g p s m args meth c RX3 cX3_productAt 4 (some .long) wsX3_productAt A) : CallW rX3_productAt s args RX3 RX3 43 yX3_x cX3_x 3 (some .int) wsX3_x rX3_x 0 0 1 := cwV 1 C.2.2.2.2.2.1 gX3_productAt_X3_x rfl rfl rfl (by decide +kernel) ⟨Nat.le_of_ble_eq_true rfl, Nat.le_of_ble_eq_true rfl⟩
theorem cw_X3_productAt_X3_y_46 {p : Program} {s : State} {m : MethodId} {args : Array Value} {meth : Method} {c : Code} {g : kG} {A : Nat → Prop} (C : CT g p s m args meth c RX3 cX3_productAt 4 (some .long) wsX3_productAt A) : CallW rX3_productAt s args RX3 RX3 46 yX3_y cX3_y 3 (some .int) wsX3_y rX3_y 0 0 1 := cwV 1 C.2.2.2.2.2.1 gX3_productAt_X3_y rfl rfl rfl (by decide +kernel) ⟨Nat.le_of_ble_eq_true rfl, Nat.le_of_ble_eq_true rfl⟩
noncomputable def fX3_productAt (p1 : Int32) (p2 : Int32) (p3 : Int32) (u : SS) : Option (Int64) := (fX3_x p2 u).bind fun r1 => (fX3_x p1 u).bind fun r2 => (fX3_x p3 u).bind fun r3 => (fX3_x p2 u).bind fun r4 => (fX3_y p2 u).bind fun r5 => (fX3_y p1 u).bind fun r6 => (fX3_y p3 u).bind fun r7 => (fX3_y p2 u).bind fun r8 => some ((((r1 - r2).toInt64) * ((r3 - r4).toInt64)) + (((r5 - r6).toInt64) * ((r7 - r8).toInt64)))
set_option maxRecDepth 100000 in
set_option maxHeartbeats 4000000 in
theorem kX3_productAt (l : Launch) (g : kG) (a : Nat → Nat) (p1 : Int32) (p2 : Int32) (p3 : Int32) (u : SS) (o1 : Int64) (hm : fX3_productAt p1 p2 p3 u = some o1) : KM l yX3_productAt wsX3_productAt rX3_productAt g [.ref (a 0), .int p1, .int p2, .int p3] (wS g a u) (some (.long o1)) (wS g a u) 0 0 := by
  refine KM.of (nL := 4) (by decide) rfl (Nat.le_of_ble_eq_true rfl) ?_
  intro p e s m args below meth c A ls C X hl
  have C : CT g p s m args meth c RX3 cX3_productAt 4 (some .long) wsX3_productAt A := C
  have hx := C.1
  have hb := C.2.1
  have hl : lv_has ls 4 [(0, .ref (a 0)), (1, .int p1), (2, .int p2), (3, .int p3)] := hl
  rw [fX3_productAt] at hm
  refine lv_aload_n hx hb dX3_productAt_0 rfl (lv_at hl 0 rfl) ?_
  refine lv_iload_n hx hb dX3_productAt_1 rfl (lv_at hl 2 rfl) ?_
  obtain ⟨r1, hcl, hm⟩ := bnd hm
  refine kVW C X (kX3_x l g a p2 u r1 hcl) (cw_X3_productAt_X3_x_43 C) 0 (ci := 3) rfl rfl (As := [.int p2]) rfl hl (rest := []) rfl (Nat.le_of_ble_eq_true rfl) (st2 := [.int r1]) rfl dX3_productAt_2 ⟨Nat.le_of_ble_eq_true rfl, Nat.le_of_ble_eq_true rfl⟩ (fun H locs X => ?_)
  clear hcl
  refine lv_aload_n hx hb dX3_productAt_5 rfl (lv_at hl 0 rfl) ?_
  refine lv_iload_n hx hb dX3_productAt_6 rfl (lv_at hl 1 rfl) ?_
  obtain ⟨r2, hcl, hm⟩ := bnd hm
  refine kVW C X (kX3_x l g a p1 u r2 hcl) (cw_X3_productAt_X3_x_43 C) 0 (ci := 3) rfl rfl (As := [.int p1]) rfl hl (rest := [.int r1]) rfl (Nat.le_of_ble_eq_true rfl) (st2 := [.int r2, .int r1]) rfl dX3_productAt_7 ⟨Nat.le_of_ble_eq_true rfl, Nat.le_of_ble_eq_true rfl⟩ (fun H locs X => ?_)
  clear hcl
  refine lv_isub hx hb dX3_productAt_10 ?_
  refine lv_i2l (v := (r1 - r2).toInt64) hx hb dX3_productAt_11 rfl ?_
  refine lv_aload_n hx hb dX3_productAt_12 rfl (lv_at hl 0 rfl) ?_
  refine lv_iload_n hx hb dX3_productAt_13 rfl (lv_at hl 3 rfl) ?_
  obtain ⟨r3, hcl, hm⟩ := bnd hm
  refine kVW C X (kX3_x l g a p3 u r3 hcl) (cw_X3_productAt_X3_x_43 C) 0 (ci := 3) rfl rfl (As := [.int p3]) rfl hl (rest := [.long ((r1 - r2).toInt64)]) rfl (Nat.le_of_ble_eq_true rfl) (st2 := [.int r3, .long ((r1 - r2).toInt64)]) rfl dX3_productAt_14 ⟨Nat.le_of_ble_eq_true rfl, Nat.le_of_ble_eq_true rfl⟩ (fun H locs X => ?_)
  clear hcl
  refine lv_aload_n hx hb dX3_productAt_17 rfl (lv_at hl 0 rfl) ?_
  refine lv_iload_n hx hb dX3_productAt_18 rfl (lv_at hl 2 rfl) ?_
  obtain ⟨r4, hcl, hm⟩ := bnd hm
  refine kVW C X (kX3_x l g a p2 u r4 hcl) (cw_X3_productAt_X3_x_43 C) 0 (ci := 3) rfl rfl (As := [.int p2]) rfl hl (rest := [.int r3, .long ((r1 - r2).toInt64)]) rfl (Nat.le_of_ble_eq_true rfl) (st2 := [.int r4, .int r3, .long ((r1 - r2).toInt64)]) rfl dX3_productAt_19 ⟨Nat.le_of_ble_eq_true rfl, Nat.le_of_ble_eq_true rfl⟩ (fun H locs X => ?_)
  clear hcl
  refine lv_isub hx hb dX3_productAt_22 ?_
  refine lv_i2l (v := (r3 - r4).toInt64) hx hb dX3_productAt_23 rfl ?_
  refine lv_lmul hx hb dX3_productAt_24 ?_
  refine lv_aload_n hx hb dX3_productAt_25 rfl (lv_at hl 0 rfl) ?_
  refine lv_iload_n hx hb dX3_productAt_26 rfl (lv_at hl 2 rfl) ?_
  obtain ⟨r5, hcl, hm⟩ := bnd hm
  refine kVW C X (kX3_y l g a p2 u r5 hcl) (cw_X3_productAt_X3_y_46 C) 0 (ci := 3) rfl rfl (As := [.int p2]) rfl hl (rest := [.long (((r1 - r2).toInt64) * ((r3 - r4).toInt64))]) rfl (Nat.le_of_ble_eq_true rfl) (st2 := [.int r5, .long (((r1 - r2).toInt64) * ((r3 - r4).toInt64))]) rfl dX3_productAt_27 ⟨Nat.le_of_ble_eq_true rfl, Nat.le_of_ble_eq_true rfl⟩ (fun H locs X => ?_)
  clear hcl
  refine lv_aload_n hx hb dX3_productAt_30 rfl (lv_at hl 0 rfl) ?_
  refine lv_iload_n hx hb dX3_productAt_31 rfl (lv_at hl 1 rfl) ?_
  obtain ⟨r6, hcl, hm⟩ := bnd hm
  refine kVW C X (kX3_y l g a p1 u r6 hcl) (cw_X3_productAt_X3_y_46 C) 0 (ci := 3) rfl rfl (As := [.int p1]) rfl hl (rest := [.int r5, .long (((r1 - r2).toInt64) * ((r3 - r4).toInt64))]) rfl (Nat.le_of_ble_eq_true rfl) (st2 := [.int r6, .int r5, .long (((r1 - r2).toInt64) * ((r3 - r4).toInt64))]) rfl dX3_productAt_32 ⟨Nat.le_of_ble_eq_true rfl, Nat.le_of_ble_eq_true rfl⟩ (fun H locs X => ?_)
  clear hcl
  refine lv_isub hx hb dX3_productAt_35 ?_
  refine lv_i2l (v := (r5 - r6).toInt64) hx hb dX3_productAt_36 rfl ?_
  refine lv_aload_n hx hb dX3_productAt_37 rfl (lv_at hl 0 rfl) ?_
  refine lv_iload_n hx hb dX3_productAt_38 rfl (lv_at hl 3 rfl) ?_
  obtain ⟨r7, hcl, hm⟩ := bnd hm
  refine kVW C X (kX3_y l g a p3 u r7 hcl) (cw_X3_productAt_X3_y_46 C) 0 (ci := 3) rfl rfl (As := [.int p3]) rfl hl (rest := [.long ((r5 - r6).toInt64), .long (((r1 - r2).toInt64) * ((r3 - r4).toInt64))]) rfl (Nat.le_of_ble_eq_true rfl) (st2 := [.int r7, .long ((r5 - r6).toInt64), .long (((r1 - r2).toInt64) * ((r3 - r4).toInt64))]) rfl dX3_productAt_39 ⟨Nat.le_of_ble_eq_true rfl, Nat.le_of_ble_eq_true rfl⟩ (fun H locs X => ?_)
  clear hcl
  refine lv_aload_n hx hb dX3_productAt_42 rfl (lv_at hl 0 rfl) ?_
  refine lv_iload_n hx hb dX3_productAt_43 rfl (lv_at hl 2 rfl) ?_
  obtain ⟨r8, hcl, hm⟩ := bnd hm
  refine kVW C X (kX3_y l g a p2 u r8 hcl) (cw_X3_productAt_X3_y_46 C) 0 (ci := 3) rfl rfl (As := [.int p2]) rfl hl (rest := [.int r7, .long ((r5 - r6).toInt64), .long (((r1 - r2).toInt64) * ((r3 - r4).toInt64))]) rfl (Nat.le_of_ble_eq_true rfl) (st2 := [.int r8, .int r7, .long ((r5 - r6).toInt64), .long (((r1 - r2).toInt64) * ((r3 - r4).toInt64))]) rfl dX3_productAt_44 ⟨Nat.le_of_ble_eq_true rfl, Nat.le_of_ble_eq_true rfl⟩ (fun H locs X => ?_)
  clear hcl
  refine lv_isub hx hb dX3_productAt_47 ?_
  refine lv_i2l (v := (r7 - r8).toInt64) hx hb dX3_productAt_48 rfl ?_
  refine lv_lmul hx hb dX3_productAt_49 ?_
  refine lv_ladd hx hb dX3_productAt_50 ?_
  cases sm hm
  exact klret C X dX3_productAt_51
-- X3 BrushStrokes$Stroke.sideOf(III)J
abbrev rX3_sideOf : Room := { frames := 1, cells := 0, slots := 0, locals := 22 }
theorem cw_X3_sideOf_X3_y_46 {p : Program} {s : State} {m : MethodId} {args : Array Value} {meth : Method} {c : Code} {g : kG} {A : Nat → Prop} (C : CT g p s m args meth c RX3 cX3_sideOf 4 (some .long) wsX3_sideOf A) : CallW rX3_sideOf s args RX3 RX3 46 yX3_y cX3_y 3 (some .int) wsX3_y rX3_y 0 0 1 := cwV 1 C.2.2.2.2.2.1 gX3_sideOf_X3_y rfl rfl rfl (by decide +kernel) ⟨Nat.le_of_ble_eq_true rfl, Nat.le_of_ble_eq_true rfl⟩
theorem cw_X3_sideOf_X3_x_43 {p : Program} {s : State} {m : MethodId} {args : Array Value} {meth : Method} {c : Code} {g : kG} {A : Nat → Prop} (C : CT g p s m args meth c RX3 cX3_sideOf 4 (some .long) wsX3_sideOf A) : CallW rX3_sideOf s args RX3 RX3 43 yX3_x cX3_x 3 (some .int) wsX3_x rX3_x 0 0 1 := cwV 1 C.2.2.2.2.2.1 gX3_sideOf_X3_x rfl rfl rfl (by decide +kernel) ⟨Nat.le_of_ble_eq_true rfl, Nat.le_of_ble_eq_true rfl⟩
noncomputable def fX3_sideOf (p1 : Int32) (p2 : Int32) (p3 : Int32) (u : SS) : Option (Int64) := (fX3_x p3 u).bind fun r1 => (fX3_x p2 u).bind fun r2 => (fX3_y p1 u).bind fun r3 => (fX3_y p2 u).bind fun r4 => (fX3_y p3 u).bind fun r5 => (fX3_y p2 u).bind fun r6 => (fX3_x p1 u).bind fun r7 => (fX3_x p2 u).bind fun r8 => some ((((r1 - r2).toInt64) * ((r3 - r4).toInt64)) - (((r5 - r6).toInt64) * ((r7 - r8).toInt64)))
set_option maxRecDepth 100000 in
set_option maxHeartbeats 4000000 in
theorem kX3_sideOf (l : Launch) (g : kG) (a : Nat → Nat) (p1 : Int32) (p2 : Int32) (p3 : Int32) (u : SS) (o1 : Int64) (hm : fX3_sideOf p1 p2 p3 u = some o1) : KM l yX3_sideOf wsX3_sideOf rX3_sideOf g [.ref (a 0), .int p1, .int p2, .int p3] (wS g a u) (some (.long o1)) (wS g a u) 0 0 := by
  refine KM.of (nL := 4) (by decide) rfl (Nat.le_of_ble_eq_true rfl) ?_
  intro p e s m args below meth c A ls C X hl
  have C : CT g p s m args meth c RX3 cX3_sideOf 4 (some .long) wsX3_sideOf A := C
  have hx := C.1
  have hb := C.2.1
  have hl : lv_has ls 4 [(0, .ref (a 0)), (1, .int p1), (2, .int p2), (3, .int p3)] := hl
  rw [fX3_sideOf] at hm
  refine lv_aload_n hx hb dX3_sideOf_0 rfl (lv_at hl 0 rfl) ?_
  refine lv_iload_n hx hb dX3_sideOf_1 rfl (lv_at hl 3 rfl) ?_
  obtain ⟨r1, hcl, hm⟩ := bnd hm
  refine kVW C X (kX3_x l g a p3 u r1 hcl) (cw_X3_sideOf_X3_x_43 C) 0 (ci := 3) rfl rfl (As := [.int p3]) rfl hl (rest := []) rfl (Nat.le_of_ble_eq_true rfl) (st2 := [.int r1]) rfl dX3_sideOf_2 ⟨Nat.le_of_ble_eq_true rfl, Nat.le_of_ble_eq_true rfl⟩ (fun H locs X => ?_)
  clear hcl
  refine lv_aload_n hx hb dX3_sideOf_5 rfl (lv_at hl 0 rfl) ?_
  refine lv_iload_n hx hb dX3_sideOf_6 rfl (lv_at hl 2 rfl) ?_
  obtain ⟨r2, hcl, hm⟩ := bnd hm
  refine kVW C X (kX3_x l g a p2 u r2 hcl) (cw_X3_sideOf_X3_x_43 C) 0 (ci := 3) rfl rfl (As := [.int p2]) rfl hl (rest := [.int r1]) rfl (Nat.le_of_ble_eq_true rfl) (st2 := [.int r2, .int r1]) rfl dX3_sideOf_7 ⟨Nat.le_of_ble_eq_true rfl, Nat.le_of_ble_eq_true rfl⟩ (fun H locs X => ?_)
  clear hcl
  refine lv_isub hx hb dX3_sideOf_10 ?_
  refine lv_i2l (v := (r1 - r2).toInt64) hx hb dX3_sideOf_11 rfl ?_
  refine lv_aload_n hx hb dX3_sideOf_12 rfl (lv_at hl 0 rfl) ?_
  refine lv_iload_n hx hb dX3_sideOf_13 rfl (lv_at hl 1 rfl) ?_
  obtain ⟨r3, hcl, hm⟩ := bnd hm
  refine kVW C X (kX3_y l g a p1 u r3 hcl) (cw_X3_sideOf_X3_y_46 C) 0 (ci := 3) rfl rfl (As := [.int p1]) rfl hl (rest := [.long ((r1 - r2).toInt64)]) rfl (Nat.le_of_ble_eq_true rfl) (st2 := [.int r3, .long ((r1 - r2).toInt64)]) rfl dX3_sideOf_14 ⟨Nat.le_of_ble_eq_true rfl, Nat.le_of_ble_eq_true rfl⟩ (fun H locs X => ?_)
  clear hcl
  refine lv_aload_n hx hb dX3_sideOf_17 rfl (lv_at hl 0 rfl) ?_
  refine lv_iload_n hx hb dX3_sideOf_18 rfl (lv_at hl 2 rfl) ?_
  obtain ⟨r4, hcl, hm⟩ := bnd hm
  refine kVW C X (kX3_y l g a p2 u r4 hcl) (cw_X3_sideOf_X3_y_46 C) 0 (ci := 3) rfl rfl (As := [.int p2]) rfl hl (rest := [.int r3, .long ((r1 - r2).toInt64)]) rfl (Nat.le_of_ble_eq_true rfl) (st2 := [.int r4, .int r3, .long ((r1 - r2).toInt64)]) rfl dX3_sideOf_19 ⟨Nat.le_of_ble_eq_true rfl, Nat.le_of_ble_eq_true rfl⟩ (fun H locs X => ?_)
  clear hcl
  refine lv_isub hx hb dX3_sideOf_22 ?_
  refine lv_i2l (v := (r3 - r4).toInt64) hx hb dX3_sideOf_23 rfl ?_
  refine lv_lmul hx hb dX3_sideOf_24 ?_
  refine lv_aload_n hx hb dX3_sideOf_25 rfl (lv_at hl 0 rfl) ?_
  refine lv_iload_n hx hb dX3_sideOf_26 rfl (lv_at hl 3 rfl) ?_
  obtain ⟨r5, hcl, hm⟩ := bnd hm
  refine kVW C X (kX3_y l g a p3 u r5 hcl) (cw_X3_sideOf_X3_y_46 C) 0 (ci := 3) rfl rfl (As := [.int p3]) rfl hl (rest := [.long (((r1 - r2).toInt64) * ((r3 - r4).toInt64))]) rfl (Nat.le_of_ble_eq_true rfl) (st2 := [.int r5, .long (((r1 - r2).toInt64) * ((r3 - r4).toInt64))]) rfl dX3_sideOf_27 ⟨Nat.le_of_ble_eq_true rfl, Nat.le_of_ble_eq_true rfl⟩ (fun H locs X => ?_)
  clear hcl
  refine lv_aload_n hx hb dX3_sideOf_30 rfl (lv_at hl 0 rfl) ?_
  refine lv_iload_n hx hb dX3_sideOf_31 rfl (lv_at hl 2 rfl) ?_
  obtain ⟨r6, hcl, hm⟩ := bnd hm
  refine kVW C X (kX3_y l g a p2 u r6 hcl) (cw_X3_sideOf_X3_y_46 C) 0 (ci := 3) rfl rfl (As := [.int p2]) rfl hl (rest := [.int r5, .long (((r1 - r2).toInt64) * ((r3 - r4).toInt64))]) rfl (Nat.le_of_ble_eq_true rfl) (st2 := [.int r6, .int r5, .long (((r1 - r2).toInt64) * ((r3 - r4).toInt64))]) rfl dX3_sideOf_32 ⟨Nat.le_of_ble_eq_true rfl, Nat.le_of_ble_eq_true rfl⟩ (fun H locs X => ?_)
  clear hcl
  refine lv_isub hx hb dX3_sideOf_35 ?_
  refine lv_i2l (v := (r5 - r6).toInt64) hx hb dX3_sideOf_36 rfl ?_
  refine lv_aload_n hx hb dX3_sideOf_37 rfl (lv_at hl 0 rfl) ?_
  refine lv_iload_n hx hb dX3_sideOf_38 rfl (lv_at hl 1 rfl) ?_
  obtain ⟨r7, hcl, hm⟩ := bnd hm
  refine kVW C X (kX3_x l g a p1 u r7 hcl) (cw_X3_sideOf_X3_x_43 C) 0 (ci := 3) rfl rfl (As := [.int p1]) rfl hl (rest := [.long ((r5 - r6).toInt64), .long (((r1 - r2).toInt64) * ((r3 - r4).toInt64))]) rfl (Nat.le_of_ble_eq_true rfl) (st2 := [.int r7, .long ((r5 - r6).toInt64), .long (((r1 - r2).toInt64) * ((r3 - r4).toInt64))]) rfl dX3_sideOf_39 ⟨Nat.le_of_ble_eq_true rfl, Nat.le_of_ble_eq_true rfl⟩ (fun H locs X => ?_)
  clear hcl
  refine lv_aload_n hx hb dX3_sideOf_42 rfl (lv_at hl 0 rfl) ?_
  refine lv_iload_n hx hb dX3_sideOf_43 rfl (lv_at hl 2 rfl) ?_
  obtain ⟨r8, hcl, hm⟩ := bnd hm
  refine kVW C X (kX3_x l g a p2 u r8 hcl) (cw_X3_sideOf_X3_x_43 C) 0 (ci := 3) rfl rfl (As := [.int p2]) rfl hl (rest := [.int r7, .long ((r5 - r6).toInt64), .long (((r1 - r2).toInt64) * ((r3 - r4).toInt64))]) rfl (Nat.le_of_ble_eq_true rfl) (st2 := [.int r8, .int r7, .long ((r5 - r6).toInt64), .long (((r1 - r2).toInt64) * ((r3 - r4).toInt64))]) rfl dX3_sideOf_44 ⟨Nat.le_of_ble_eq_true rfl, Nat.le_of_ble_eq_true rfl⟩ (fun H locs X => ?_)
  clear hcl
  refine lv_isub hx hb dX3_sideOf_47 ?_
  refine lv_i2l (v := (r7 - r8).toInt64) hx hb dX3_sideOf_48 rfl ?_
  refine lv_lmul hx hb dX3_sideOf_49 ?_
  refine lv_lsub hx hb dX3_sideOf_50 ?_
  cases sm hm
  exact klret C X dX3_sideOf_51
-- X3 BrushStrokes$Stroke.spread(III)J
abbrev rX3_spread : Room := { frames := 1, cells := 0, slots := 0, locals := 23 }
theorem ml_X3_spread_56 : (Cond.methodLink RX3 56 Lib.MathLoose.max_long.x) ∈ wsX3_spread ∧ (Cond.static Lib.MathLoose.max_long.x) ∈ wsX3_spread ∧ (Cond.initialized "java/lang/Math") ∈ wsX3_spread ∧ (Cond.code Lib.MathLoose.max_long.x Lib.MathLoose.max_long.code 4 (some .long)) ∈ wsX3_spread := by decide +kernel
theorem cw_X3_spread_X3_y_46 {p : Program} {s : State} {m : MethodId} {args : Array Value} {meth : Method} {c : Code} {g : kG} {A : Nat → Prop} (C : CT g p s m args meth c RX3 cX3_spread 16 (some .long) wsX3_spread A) : CallW rX3_spread s args RX3 RX3 46 yX3_y cX3_y 3 (some .int) wsX3_y rX3_y 0 0 1 := cwV 1 C.2.2.2.2.2.1 gX3_spread_X3_y rfl rfl rfl (by decide +kernel) ⟨Nat.le_of_ble_eq_true rfl, Nat.le_of_ble_eq_true rfl⟩
theorem cw_X3_spread_X3_x_43 {p : Program} {s : State} {m : MethodId} {args : Array Value} {meth : Method} {c : Code} {g : kG} {A : Nat → Prop} (C : CT g p s m args meth c RX3 cX3_spread 16 (some .long) wsX3_spread A) : CallW rX3_spread s args RX3 RX3 43 yX3_x cX3_x 3 (some .int) wsX3_x rX3_x 0 0 1 := cwV 1 C.2.2.2.2.2.1 gX3_spread_X3_x rfl rfl rfl (by decide +kernel) ⟨Nat.le_of_ble_eq_true rfl, Nat.le_of_ble_eq_true rfl⟩
noncomputable def fX3_spread (p1 : Int32) (p2 : Int32) (p3 : Int32) (u : SS) : Option (Int64) := (fX3_x p1 u).bind fun r1 => (fX3_x p2 u).bind fun r2 => (fX3_y p1 u).bind fun r3 => (fX3_y p2 u).bind fun r4 => (fX3_x p3 u).bind fun r5 => (fX3_x p2 u).bind fun r6 => (fX3_y p3 u).bind fun r7 => (fX3_y p2 u).bind fun r8 => lt ((((r1 - r2).toInt64) * ((r5 - r6).toInt64)) + (((r3 - r4).toInt64) * ((r7 - r8).toInt64))) fun x9 => lt ((((r5 - r6).toInt64) * ((r5 - r6).toInt64)) + (((r7 - r8).toInt64) * ((r7 - r8).toInt64))) fun x10 => if 0 < x9 then (if x9 < x10 then (some (((((r1 - r2).toInt64) * ((r7 - r8).toInt64)) - (((r3 - r4).toInt64) * ((r5 - r6).toInt64))) * ((((r1 - r2).toInt64) * ((r7 - r8).toInt64)) - (((r3 - r4).toInt64) * ((r5 - r6).toInt64))))) else (some ((((((r1 - r2).toInt64) - ((r5 - r6).toInt64)) * (((r1 - r2).toInt64) - ((r5 - r6).toInt64))) + ((((r3 - r4).toInt64) - ((r7 - r8).toInt64)) * (((r3 - r4).toInt64) - ((r7 - r8).toInt64)))) * x10))) else (some (((((r1 - r2).toInt64) * ((r1 - r2).toInt64)) + (((r3 - r4).toInt64) * ((r3 - r4).toInt64))) * (if 1 < x10 then x10 else 1)))
set_option maxRecDepth 100000 in
set_option maxHeartbeats 4000000 in
theorem kX3_spread (l : Launch) (g : kG) (a : Nat → Nat) (p1 : Int32) (p2 : Int32) (p3 : Int32) (u : SS) (o1 : Int64) (hm : fX3_spread p1 p2 p3 u = some o1) : KM l yX3_spread wsX3_spread rX3_spread g [.ref (a 0), .int p1, .int p2, .int p3] (wS g a u) (some (.long o1)) (wS g a u) 0 0 := by
  refine KM.of (nL := 16) (by decide) rfl (Nat.le_of_ble_eq_true rfl) ?_
  intro p e s m args below meth c A ls C X hl
  have C : CT g p s m args meth c RX3 cX3_spread 16 (some .long) wsX3_spread A := C
  have hx := C.1
  have hb := C.2.1
  have hl : lv_has ls 16 [(0, .ref (a 0)), (1, .int p1), (2, .int p2), (3, .int p3)] := hl
  rw [fX3_spread] at hm
  refine lv_aload_n hx hb dX3_spread_0 rfl (lv_at hl 0 rfl) ?_
  refine lv_iload_n hx hb dX3_spread_1 rfl (lv_at hl 1 rfl) ?_
  obtain ⟨r1, hcl, hm⟩ := bnd hm
  refine kVW C X (kX3_x l g a p1 u r1 hcl) (cw_X3_spread_X3_x_43 C) 0 (ci := 3) rfl rfl (As := [.int p1]) rfl hl (rest := []) rfl (Nat.le_of_ble_eq_true rfl) (st2 := [.int r1]) rfl dX3_spread_2 ⟨Nat.le_of_ble_eq_true rfl, Nat.le_of_ble_eq_true rfl⟩ (fun H locs X => ?_)
  clear hcl
  refine lv_aload_n hx hb dX3_spread_5 rfl (lv_at hl 0 rfl) ?_
  refine lv_iload_n hx hb dX3_spread_6 rfl (lv_at hl 2 rfl) ?_
  obtain ⟨r2, hcl, hm⟩ := bnd hm
  refine kVW C X (kX3_x l g a p2 u r2 hcl) (cw_X3_spread_X3_x_43 C) 0 (ci := 3) rfl rfl (As := [.int p2]) rfl hl (rest := [.int r1]) rfl (Nat.le_of_ble_eq_true rfl) (st2 := [.int r2, .int r1]) rfl dX3_spread_7 ⟨Nat.le_of_ble_eq_true rfl, Nat.le_of_ble_eq_true rfl⟩ (fun H locs X => ?_)
  clear hcl
  refine lv_isub hx hb dX3_spread_10 ?_
  refine lv_i2l (v := (r1 - r2).toInt64) hx hb dX3_spread_11 rfl ?_
  refine lv_lstore (lv' := [(4, .long ((r1 - r2).toInt64)), (0, .ref (a 0)), (1, .int p1), (2, .int p2), (3, .int p3)]) hx hb dX3_spread_12 hl (by decide) rfl (fun ls hl => ?_)
  refine lv_aload_n hx hb dX3_spread_14 rfl (lv_at hl 1 rfl) ?_
  refine lv_iload_n hx hb dX3_spread_15 rfl (lv_at hl 2 rfl) ?_
  obtain ⟨r3, hcl, hm⟩ := bnd hm
  refine kVW C X (kX3_y l g a p1 u r3 hcl) (cw_X3_spread_X3_y_46 C) 0 (ci := 3) rfl rfl (As := [.int p1]) rfl hl (rest := []) rfl (Nat.le_of_ble_eq_true rfl) (st2 := [.int r3]) rfl dX3_spread_16 ⟨Nat.le_of_ble_eq_true rfl, Nat.le_of_ble_eq_true rfl⟩ (fun H locs X => ?_)
  clear hcl
  refine lv_aload_n hx hb dX3_spread_19 rfl (lv_at hl 1 rfl) ?_
  refine lv_iload_n hx hb dX3_spread_20 rfl (lv_at hl 3 rfl) ?_
  obtain ⟨r4, hcl, hm⟩ := bnd hm
  refine kVW C X (kX3_y l g a p2 u r4 hcl) (cw_X3_spread_X3_y_46 C) 0 (ci := 3) rfl rfl (As := [.int p2]) rfl hl (rest := [.int r3]) rfl (Nat.le_of_ble_eq_true rfl) (st2 := [.int r4, .int r3]) rfl dX3_spread_21 ⟨Nat.le_of_ble_eq_true rfl, Nat.le_of_ble_eq_true rfl⟩ (fun H locs X => ?_)
  clear hcl
  refine lv_isub hx hb dX3_spread_24 ?_
  refine lv_i2l (v := (r3 - r4).toInt64) hx hb dX3_spread_25 rfl ?_
  refine lv_lstore (lv' := [(6, .long ((r3 - r4).toInt64)), (4, .long ((r1 - r2).toInt64)), (0, .ref (a 0)), (1, .int p1), (2, .int p2), (3, .int p3)]) hx hb dX3_spread_26 hl (by decide) rfl (fun ls hl => ?_)
  refine lv_aload_n hx hb dX3_spread_28 rfl (lv_at hl 2 rfl) ?_
  refine lv_iload_n hx hb dX3_spread_29 rfl (lv_at hl 5 rfl) ?_
  obtain ⟨r5, hcl, hm⟩ := bnd hm
  refine kVW C X (kX3_x l g a p3 u r5 hcl) (cw_X3_spread_X3_x_43 C) 0 (ci := 3) rfl rfl (As := [.int p3]) rfl hl (rest := []) rfl (Nat.le_of_ble_eq_true rfl) (st2 := [.int r5]) rfl dX3_spread_30 ⟨Nat.le_of_ble_eq_true rfl, Nat.le_of_ble_eq_true rfl⟩ (fun H locs X => ?_)
  clear hcl
  refine lv_aload_n hx hb dX3_spread_33 rfl (lv_at hl 2 rfl) ?_
  refine lv_iload_n hx hb dX3_spread_34 rfl (lv_at hl 4 rfl) ?_
  obtain ⟨r6, hcl, hm⟩ := bnd hm
  refine kVW C X (kX3_x l g a p2 u r6 hcl) (cw_X3_spread_X3_x_43 C) 0 (ci := 3) rfl rfl (As := [.int p2]) rfl hl (rest := [.int r5]) rfl (Nat.le_of_ble_eq_true rfl) (st2 := [.int r6, .int r5]) rfl dX3_spread_35 ⟨Nat.le_of_ble_eq_true rfl, Nat.le_of_ble_eq_true rfl⟩ (fun H locs X => ?_)
  clear hcl
  refine lv_isub hx hb dX3_spread_38 ?_
  refine lv_i2l (v := (r5 - r6).toInt64) hx hb dX3_spread_39 rfl ?_
  refine lv_lstore (lv' := [(8, .long ((r5 - r6).toInt64)), (6, .long ((r3 - r4).toInt64)), (4, .long ((r1 - r2).toInt64)), (0, .ref (a 0)), (1, .int p1), (2, .int p2), (3, .int p3)]) hx hb dX3_spread_40 hl (by decide) rfl (fun ls hl => ?_)
  refine lv_aload_n hx hb dX3_spread_42 rfl (lv_at hl 3 rfl) ?_
  refine lv_iload_n hx hb dX3_spread_43 rfl (lv_at hl 6 rfl) ?_
  obtain ⟨r7, hcl, hm⟩ := bnd hm
  refine kVW C X (kX3_y l g a p3 u r7 hcl) (cw_X3_spread_X3_y_46 C) 0 (ci := 3) rfl rfl (As := [.int p3]) rfl hl (rest := []) rfl (Nat.le_of_ble_eq_true rfl) (st2 := [.int r7]) rfl dX3_spread_44 ⟨Nat.le_of_ble_eq_true rfl, Nat.le_of_ble_eq_true rfl⟩ (fun H locs X => ?_)
  clear hcl
  refine lv_aload_n hx hb dX3_spread_47 rfl (lv_at hl 3 rfl) ?_
  refine lv_iload_n hx hb dX3_spread_48 rfl (lv_at hl 5 rfl) ?_
  obtain ⟨r8, hcl, hm⟩ := bnd hm
  refine kVW C X (kX3_y l g a p2 u r8 hcl) (cw_X3_spread_X3_y_46 C) 0 (ci := 3) rfl rfl (As := [.int p2]) rfl hl (rest := [.int r7]) rfl (Nat.le_of_ble_eq_true rfl) (st2 := [.int r8, .int r7]) rfl dX3_spread_49 ⟨Nat.le_of_ble_eq_true rfl, Nat.le_of_ble_eq_true rfl⟩ (fun H locs X => ?_)
  clear hcl
  refine lv_isub hx hb dX3_spread_52 ?_
  refine lv_i2l (v := (r7 - r8).toInt64) hx hb dX3_spread_53 rfl ?_
  refine lv_lstore (lv' := [(10, .long ((r7 - r8).toInt64)), (8, .long ((r5 - r6).toInt64)), (6, .long ((r3 - r4).toInt64)), (4, .long ((r1 - r2).toInt64)), (0, .ref (a 0)), (1, .int p1), (2, .int p2), (3, .int p3)]) hx hb dX3_spread_54 hl (by decide) rfl (fun ls hl => ?_)
  refine lv_lload hx hb dX3_spread_56 (lv_at hl 3 rfl) ?_
  refine lv_lload hx hb dX3_spread_58 (lv_at hl 1 rfl) ?_
  refine lv_lmul hx hb dX3_spread_60 ?_
  refine lv_lload hx hb dX3_spread_61 (lv_at hl 2 rfl) ?_
  refine lv_lload hx hb dX3_spread_63 (lv_at hl 0 rfl) ?_
  refine lv_lmul hx hb dX3_spread_65 ?_
  refine lv_ladd hx hb dX3_spread_66 ?_
  refine lv_topl (fun x9 ex => ?_)
  have hm := lt_t ex hm
  clear ex
  refine lv_lstore (lv' := [(12, .long x9), (10, .long ((r7 - r8).toInt64)), (8, .long ((r5 - r6).toInt64)), (6, .long ((r3 - r4).toInt64)), (4, .long ((r1 - r2).toInt64)), (0, .ref (a 0)), (1, .int p1), (2, .int p2), (3, .int p3)]) hx hb dX3_spread_67 hl (by decide) rfl (fun ls hl => ?_)
  refine lv_lload hx hb dX3_spread_69 (lv_at hl 2 rfl) ?_
  refine lv_lload hx hb dX3_spread_71 (lv_at hl 2 rfl) ?_
  refine lv_lmul hx hb dX3_spread_73 ?_
  refine lv_lload hx hb dX3_spread_74 (lv_at hl 1 rfl) ?_
  refine lv_lload hx hb dX3_spread_76 (lv_at hl 1 rfl) ?_
  refine lv_lmul hx hb dX3_spread_78 ?_
  refine lv_ladd hx hb dX3_spread_79 ?_
  refine lv_topl (fun x10 ex => ?_)
  have hm := lt_t ex hm
  clear ex
  refine lv_lstore (lv' := [(14, .long x10), (12, .long x9), (10, .long ((r7 - r8).toInt64)), (8, .long ((r5 - r6).toInt64)), (6, .long ((r3 - r4).toInt64)), (4, .long ((r1 - r2).toInt64)), (0, .ref (a 0)), (1, .int p1), (2, .int p2), (3, .int p3)]) hx hb dX3_spread_80 hl (by decide) rfl (fun ls hl => ?_)
  refine lv_lload hx hb dX3_spread_82 (lv_at hl 1 rfl) ?_
  refine lv_lconst (v := 0) hx hb dX3_spread_84 (by decide) ?_
  refine klcmp_gt (tgt := 108) hx hb dX3_spread_85 dX3_spread_86 (by decide) (fun hc => ?_) (fun hc => ?_)
  · have hm := ifp hc hm
    refine lv_lload hx hb dX3_spread_108 (lv_at hl 1 rfl) ?_
    refine lv_lload hx hb dX3_spread_110 (lv_at hl 0 rfl) ?_
    refine klcmp_lt (tgt := 143) hx hb dX3_spread_112 dX3_spread_113 (by decide) (fun hc => ?_) (fun hc => ?_)
    · have hm := ifp hc hm
      refine lv_lload hx hb dX3_spread_143 (lv_at hl 5 rfl) ?_
      refine lv_lload hx hb dX3_spread_145 (lv_at hl 2 rfl) ?_
      refine lv_lmul hx hb dX3_spread_147 ?_
      refine lv_lload hx hb dX3_spread_148 (lv_at hl 4 rfl) ?_
      refine lv_lload hx hb dX3_spread_150 (lv_at hl 3 rfl) ?_
      refine lv_lmul hx hb dX3_spread_152 ?_
      refine lv_lsub hx hb dX3_spread_153 ?_
      refine lv_lload hx hb dX3_spread_154 (lv_at hl 5 rfl) ?_
      refine lv_lload hx hb dX3_spread_156 (lv_at hl 2 rfl) ?_
      refine lv_lmul hx hb dX3_spread_158 ?_
      refine lv_lload hx hb dX3_spread_159 (lv_at hl 4 rfl) ?_
      refine lv_lload hx hb dX3_spread_161 (lv_at hl 3 rfl) ?_
      refine lv_lmul hx hb dX3_spread_163 ?_
      refine lv_lsub hx hb dX3_spread_164 ?_
      refine lv_lmul hx hb dX3_spread_165 ?_
      cases sm hm
      exact klret C X dX3_spread_166
    · have hm := ifn hc hm
      refine lv_lload hx hb dX3_spread_116 (lv_at hl 5 rfl) ?_
      refine lv_lload hx hb dX3_spread_118 (lv_at hl 3 rfl) ?_
      refine lv_lsub hx hb dX3_spread_120 ?_
      refine lv_lload hx hb dX3_spread_121 (lv_at hl 5 rfl) ?_
      refine lv_lload hx hb dX3_spread_123 (lv_at hl 3 rfl) ?_
      refine lv_lsub hx hb dX3_spread_125 ?_
      refine lv_lmul hx hb dX3_spread_126 ?_
      refine lv_lload hx hb dX3_spread_127 (lv_at hl 4 rfl) ?_
      refine lv_lload hx hb dX3_spread_129 (lv_at hl 2 rfl) ?_
      refine lv_lsub hx hb dX3_spread_131 ?_
      refine lv_lload hx hb dX3_spread_132 (lv_at hl 4 rfl) ?_
      refine lv_lload hx hb dX3_spread_134 (lv_at hl 2 rfl) ?_
      refine lv_lsub hx hb dX3_spread_136 ?_
      refine lv_lmul hx hb dX3_spread_137 ?_
      refine lv_ladd hx hb dX3_spread_138 ?_
      refine lv_lload hx hb dX3_spread_139 (lv_at hl 0 rfl) ?_
      refine lv_lmul hx hb dX3_spread_141 ?_
      cases sm hm
      exact klret C X dX3_spread_142
  · have hm := ifn hc hm
    refine lv_lload hx hb dX3_spread_89 (lv_at hl 5 rfl) ?_
    refine lv_lload hx hb dX3_spread_91 (lv_at hl 5 rfl) ?_
    refine lv_lmul hx hb dX3_spread_93 ?_
    refine lv_lload hx hb dX3_spread_94 (lv_at hl 4 rfl) ?_
    refine lv_lload hx hb dX3_spread_96 (lv_at hl 4 rfl) ?_
    refine lv_lmul hx hb dX3_spread_98 ?_
    refine lv_ladd hx hb dX3_spread_99 ?_
    refine lv_lload hx hb dX3_spread_100 (lv_at hl 0 rfl) ?_
    refine lv_lconst (v := 1) hx hb dX3_spread_102 (by decide) ?_
    refine va_mmax_long hx hb (C.2.2.2.1.trans hl.1.symm) C.2.2.2.2.1 (C.2.2.2.2.2.1 _ ml_X3_spread_56.1) (C.2.2.2.2.2.1 _ ml_X3_spread_56.2.1) (C.2.2.2.2.2.1 _ ml_X3_spread_56.2.2.1) (C.2.2.2.2.2.1 _ ml_X3_spread_56.2.2.2) (Nat.le_of_ble_eq_true rfl) (Nat.le_of_ble_eq_true rfl) (Nat.le_of_ble_eq_true rfl) (Nat.le_of_ble_eq_true rfl) dX3_spread_103 ?_
    refine lv_lmul hx hb dX3_spread_106 ?_
    cases sm hm
    exact klret C X dX3_spread_107
-- X3 BrushStrokes$Stroke.scale(II)J
abbrev rX3_scale : Room := { frames := 2, cells := 0, slots := 0, locals := 48 }
theorem ml_X3_scale_56 : (Cond.methodLink RX3 56 Lib.MathLoose.max_long.x) ∈ wsX3_scale ∧ (Cond.static Lib.MathLoose.max_long.x) ∈ wsX3_scale ∧ (Cond.initialized "java/lang/Math") ∈ wsX3_scale ∧ (Cond.code Lib.MathLoose.max_long.x Lib.MathLoose.max_long.code 4 (some .long)) ∈ wsX3_scale := by decide +kernel
theorem cw_X3_scale_X3_square_62 {p : Program} {s : State} {m : MethodId} {args : Array Value} {meth : Method} {c : Code} {g : kG} {A : Nat → Prop} (C : CT g p s m args meth c RX3 cX3_scale 3 (some .long) wsX3_scale A) : CallW rX3_scale s args RX3 RX3 62 yX3_square cX3_square 7 (some .long) wsX3_square rX3_square 0 0 2 := cwV 2 C.2.2.2.2.2.1 gX3_scale_X3_square rfl rfl rfl (by decide +kernel) ⟨Nat.le_of_ble_eq_true rfl, Nat.le_of_ble_eq_true rfl⟩
noncomputable def fX3_scale (p1 : Int32) (p2 : Int32) (u : SS) : Option (Int64) := (fX3_square p1 p2 u).bind fun r1 => some (if 1 < r1 then r1 else 1)
set_option maxRecDepth 100000 in
set_option maxHeartbeats 4000000 in
theorem kX3_scale (l : Launch) (g : kG) (a : Nat → Nat) (p1 : Int32) (p2 : Int32) (u : SS) (o1 : Int64) (hm : fX3_scale p1 p2 u = some o1) : KM l yX3_scale wsX3_scale rX3_scale g [.ref (a 0), .int p1, .int p2] (wS g a u) (some (.long o1)) (wS g a u) 0 0 := by
  refine KM.of (nL := 3) (by decide) rfl (Nat.le_of_ble_eq_true rfl) ?_
  intro p e s m args below meth c A ls C X hl
  have C : CT g p s m args meth c RX3 cX3_scale 3 (some .long) wsX3_scale A := C
  have hx := C.1
  have hb := C.2.1
  have hl : lv_has ls 3 [(0, .ref (a 0)), (1, .int p1), (2, .int p2)] := hl
  rw [fX3_scale] at hm
  refine lv_aload_n hx hb dX3_scale_0 rfl (lv_at hl 0 rfl) ?_
  refine lv_iload_n hx hb dX3_scale_1 rfl (lv_at hl 1 rfl) ?_
  refine lv_iload_n hx hb dX3_scale_2 rfl (lv_at hl 2 rfl) ?_
  obtain ⟨r1, hcl, hm⟩ := bnd hm
  refine kVW C X (kX3_square l g a p1 p2 u r1 hcl) (cw_X3_scale_X3_square_62 C) 0 (ci := 3) rfl rfl (As := [.int p1, .int p2]) rfl hl (rest := []) rfl (Nat.le_of_ble_eq_true rfl) (st2 := [.long r1]) rfl dX3_scale_3 ⟨Nat.le_of_ble_eq_true rfl, Nat.le_of_ble_eq_true rfl⟩ (fun H locs X => ?_)
  clear hcl
  refine lv_lconst (v := 1) hx hb dX3_scale_6 (by decide) ?_
  refine va_mmax_long hx hb (C.2.2.2.1.trans hl.1.symm) C.2.2.2.2.1 (C.2.2.2.2.2.1 _ ml_X3_scale_56.1) (C.2.2.2.2.2.1 _ ml_X3_scale_56.2.1) (C.2.2.2.2.2.1 _ ml_X3_scale_56.2.2.1) (C.2.2.2.2.2.1 _ ml_X3_scale_56.2.2.2) (Nat.le_of_ble_eq_true rfl) (Nat.le_of_ble_eq_true rfl) (Nat.le_of_ble_eq_true rfl) (Nat.le_of_ble_eq_true rfl) dX3_scale_7 ?_
  cases sm hm
  exact klret C X dX3_scale_10
-- X3 BrushStrokes$Stroke.hundredths(III)I
abbrev rX3_hundredths : Room := { frames := 3, cells := 0, slots := 0, locals := 70 }
theorem cw_X3_hundredths_X3_spread_71 {p : Program} {s : State} {m : MethodId} {args : Array Value} {meth : Method} {c : Code} {g : kG} {A : Nat → Prop} (C : CT g p s m args meth c RX3 cX3_hundredths 6 (some .int) wsX3_hundredths A) : CallW rX3_hundredths s args RX3 RX3 71 yX3_spread cX3_spread 16 (some .long) wsX3_spread rX3_spread 0 0 3 := cwV 3 C.2.2.2.2.2.1 gX3_hundredths_X3_spread rfl rfl rfl (by decide +kernel) ⟨Nat.le_of_ble_eq_true rfl, Nat.le_of_ble_eq_true rfl⟩
theorem cw_X3_hundredths_X3_scale_66 {p : Program} {s : State} {m : MethodId} {args : Array Value} {meth : Method} {c : Code} {g : kG} {A : Nat → Prop} (C : CT g p s m args meth c RX3 cX3_hundredths 6 (some .int) wsX3_hundredths A) : CallW rX3_hundredths s args RX3 RX3 66 yX3_scale cX3_scale 3 (some .long) wsX3_scale rX3_scale 0 0 2 := cwV 2 C.2.2.2.2.2.1 gX3_hundredths_X3_scale rfl rfl rfl (by decide +kernel) ⟨Nat.le_of_ble_eq_true rfl, Nat.le_of_ble_eq_true rfl⟩
theorem cw_X3_hundredths_X5_root_75 {p : Program} {s : State} {m : MethodId} {args : Array Value} {meth : Method} {c : Code} {g : kG} {A : Nat → Prop} (C : CT g p s m args meth c RX3 cX3_hundredths 6 (some .int) wsX3_hundredths A) : va_CN rX3_hundredths s args RX3 75 yX5_root RX5 cX5_root 6 (some .int) wsX5_root rX5_root 0 0 1 ∧ (Cond.static yX5_root).before args s = true ∧ True := ⟨va_cnB 1 C.2.2.2.2.2.1 gX3_hundredths_X5_root_n75 rfl rfl rfl (C.2.2.2.2.2.2.2.1.2.1.1 (RX3, 75, yX5_root, RX5) (by decide +kernel)) (C.2.2.2.2.2.1 (.initialized RX5) (by decide +kernel)) (by decide +kernel) ⟨Nat.le_of_ble_eq_true rfl, Nat.le_of_ble_eq_true rfl⟩, C.2.2.2.2.2.1 (.static yX5_root) (by decide +kernel), trivial⟩
noncomputable def fX3_hundredths (p1 : Int32) (p2 : Int32) (p3 : Int32) (u : SS) : Option (Int32) := (fX3_scale p2 p3 u).bind fun r1 => if 0 < r1 then ((fX3_spread p1 p2 p3 u).bind fun r2 => gd (decide (¬ r1 = 0)) ((fX5_root ((10000 * r2) / r1)).bind fun r3 => some r3)) else (some 0)
set_option maxRecDepth 100000 in
set_option maxHeartbeats 4000000 in
theorem kX3_hundredths (l : Launch) (g : kG) (a : Nat → Nat) (p1 : Int32) (p2 : Int32) (p3 : Int32) (u : SS) (o1 : Int32) (hm : fX3_hundredths p1 p2 p3 u = some o1) : KM l yX3_hundredths wsX3_hundredths rX3_hundredths g [.ref (a 0), .int p1, .int p2, .int p3] (wS g a u) (some (.int o1)) (wS g a u) 0 0 := by
  refine KM.of (nL := 6) (by decide) rfl (Nat.le_of_ble_eq_true rfl) ?_
  intro p e s m args below meth c A ls C X hl
  have C : CT g p s m args meth c RX3 cX3_hundredths 6 (some .int) wsX3_hundredths A := C
  have hx := C.1
  have hb := C.2.1
  have hl : lv_has ls 6 [(0, .ref (a 0)), (1, .int p1), (2, .int p2), (3, .int p3)] := hl
  rw [fX3_hundredths] at hm
  refine lv_aload_n hx hb dX3_hundredths_0 rfl (lv_at hl 0 rfl) ?_
  refine lv_iload_n hx hb dX3_hundredths_1 rfl (lv_at hl 2 rfl) ?_
  refine lv_iload_n hx hb dX3_hundredths_2 rfl (lv_at hl 3 rfl) ?_
  obtain ⟨r1, hcl, hm⟩ := bnd hm
  refine kVW C X (kX3_scale l g a p2 p3 u r1 hcl) (cw_X3_hundredths_X3_scale_66 C) 0 (ci := 3) rfl rfl (As := [.int p2, .int p3]) rfl hl (rest := []) rfl (Nat.le_of_ble_eq_true rfl) (st2 := [.long r1]) rfl dX3_hundredths_3 ⟨Nat.le_of_ble_eq_true rfl, Nat.le_of_ble_eq_true rfl⟩ (fun H locs X => ?_)
  clear hcl
  refine lv_lstore (lv' := [(4, .long r1), (0, .ref (a 0)), (1, .int p1), (2, .int p2), (3, .int p3)]) hx hb dX3_hundredths_6 hl (by decide) rfl (fun ls hl => ?_)
  refine lv_lload hx hb dX3_hundredths_8 (lv_at hl 0 rfl) ?_
  refine lv_lconst (v := 0) hx hb dX3_hundredths_10 (by decide) ?_
  refine klcmp_gt (tgt := 17) hx hb dX3_hundredths_11 dX3_hundredths_12 (by decide) (fun hc => ?_) (fun hc => ?_)
  · have hm := ifp hc hm
    refine lv_ldc2 (v := 10000) hx hb C.2.2.2.2.1 (C.2.2.2.2.2.1 (.constantLong RX3 69 10000) (by decide +kernel)) dX3_hundredths_17 ?_
    refine lv_aload_n hx hb dX3_hundredths_20 rfl (lv_at hl 1 rfl) ?_
    refine lv_iload_n hx hb dX3_hundredths_21 rfl (lv_at hl 2 rfl) ?_
    refine lv_iload_n hx hb dX3_hundredths_22 rfl (lv_at hl 3 rfl) ?_
    refine lv_iload_n hx hb dX3_hundredths_23 rfl (lv_at hl 4 rfl) ?_
    obtain ⟨r2, hcl, hm⟩ := bnd hm
    refine kVW C X (kX3_spread l g a p1 p2 p3 u r2 hcl) (cw_X3_hundredths_X3_spread_71 C) 0 (ci := 3) rfl rfl (As := [.int p1, .int p2, .int p3]) rfl hl (rest := [.long 10000]) rfl (Nat.le_of_ble_eq_true rfl) (st2 := [.long r2, .long 10000]) rfl dX3_hundredths_24 ⟨Nat.le_of_ble_eq_true rfl, Nat.le_of_ble_eq_true rfl⟩ (fun H locs X => ?_)
    clear hcl
    refine lv_lmul hx hb dX3_hundredths_27 ?_
    refine lv_lload hx hb dX3_hundredths_28 (lv_at hl 0 rfl) ?_
    obtain ⟨hgv, hm⟩ := gd_t hm
    refine lv_ldiv hx hb dX3_hundredths_30 (of_decide_eq_true hgv) ?_
    obtain ⟨r3, hcl, hm⟩ := bnd hm
    refine kN0 C X (kX5_root l g ((10000 * r2) / r1) r3 hcl) (cw_X3_hundredths_X5_root_75 C) (As := [.long ((10000 * r2) / r1)]) rfl hl (rest := []) rfl (Nat.le_of_ble_eq_true rfl) (st2 := [.int r3]) rfl dX3_hundredths_31 ⟨Nat.le_of_ble_eq_true rfl, Nat.le_of_ble_eq_true rfl⟩ (fun H locs X => ?_)
    clear hcl
    cases sm hm
    exact kiret C X dX3_hundredths_34
  · have hm := ifn hc hm
    refine lv_iconst (v := 0) hx hb dX3_hundredths_15 (by decide) ?_
    cases sm hm
    exact kiret C X dX3_hundredths_16
-- X3 BrushStrokes$Stroke.stray(I)I
abbrev rX3_stray : Room := { frames := 4, cells := 0, slots := 0, locals := 95 }
theorem cw_X3_stray_X3_keptBefore_79 {p : Program} {s : State} {m : MethodId} {args : Array Value} {meth : Method} {c : Code} {g : kG} {A : Nat → Prop} (C : CT g p s m args meth c RX3 cX3_stray 2 (some .int) wsX3_stray A) : CallW rX3_stray s args RX3 RX3 79 yX3_keptBefore cX3_keptBefore 3 (some .int) wsX3_keptBefore rX3_keptBefore 0 0 1 := cwV 1 C.2.2.2.2.2.1 gX3_stray_X3_keptBefore rfl rfl rfl (by decide +kernel) ⟨Nat.le_of_ble_eq_true rfl, Nat.le_of_ble_eq_true rfl⟩
theorem cw_X3_stray_X3_isKept_52 {p : Program} {s : State} {m : MethodId} {args : Array Value} {meth : Method} {c : Code} {g : kG} {A : Nat → Prop} (C : CT g p s m args meth c RX3 cX3_stray 2 (some .int) wsX3_stray A) : CallW rX3_stray s args RX3 RX3 52 yX3_isKept cX3_isKept 2 (some .boolean) wsX3_isKept rX3_isKept 0 0 1 := cwV 1 C.2.2.2.2.2.1 gX3_stray_X3_isKept rfl rfl rfl (by decide +kernel) ⟨Nat.le_of_ble_eq_true rfl, Nat.le_of_ble_eq_true rfl⟩
theorem cw_X3_stray_X3_keptBehind_82 {p : Program} {s : State} {m : MethodId} {args : Array Value} {meth : Method} {c : Code} {g : kG} {A : Nat → Prop} (C : CT g p s m args meth c RX3 cX3_stray 2 (some .int) wsX3_stray A) : CallW rX3_stray s args RX3 RX3 82 yX3_keptBehind cX3_keptBehind 3 (some .int) wsX3_keptBehind rX3_keptBehind 0 0 1 := cwV 1 C.2.2.2.2.2.1 gX3_stray_X3_keptBehind rfl rfl rfl (by decide +kernel) ⟨Nat.le_of_ble_eq_true rfl, Nat.le_of_ble_eq_true rfl⟩
theorem cw_X3_stray_X3_hundredths_85 {p : Program} {s : State} {m : MethodId} {args : Array Value} {meth : Method} {c : Code} {g : kG} {A : Nat → Prop} (C : CT g p s m args meth c RX3 cX3_stray 2 (some .int) wsX3_stray A) : CallW rX3_stray s args RX3 RX3 85 yX3_hundredths cX3_hundredths 6 (some .int) wsX3_hundredths rX3_hundredths 0 0 3 := cwV 3 C.2.2.2.2.2.1 gX3_stray_X3_hundredths rfl rfl rfl (by decide +kernel) ⟨Nat.le_of_ble_eq_true rfl, Nat.le_of_ble_eq_true rfl⟩
noncomputable def fX3_stray (p1 : Int32) (u : SS) : Option (Int32) := (fX3_isKept p1 u).bind fun r1 => ((if r1 = 0 then ((fX3_keptBefore p1 u).bind fun r6 => (fX3_keptBehind p1 u).bind fun r7 => (fX3_hundredths p1 r6 r7 u).bind fun r8 => some r8) else (some 0)) : Option (Int32)).bind fun v5 => some v5
set_option maxRecDepth 100000 in
set_option maxHeartbeats 4000000 in
theorem kX3_stray (l : Launch) (g : kG) (a : Nat → Nat) (p1 : Int32) (u : SS) (o1 : Int32) (hm : fX3_stray p1 u = some o1) : KM l yX3_stray wsX3_stray rX3_stray g [.ref (a 0), .int p1] (wS g a u) (some (.int o1)) (wS g a u) 0 0 := by
  refine KM.of (nL := 2) (by decide) rfl (Nat.le_of_ble_eq_true rfl) ?_
  intro p e s m args below meth c A ls C X hl
  have C : CT g p s m args meth c RX3 cX3_stray 2 (some .int) wsX3_stray A := C
  have hx := C.1
  have hb := C.2.1
  have hl : lv_has ls 2 [(0, .ref (a 0)), (1, .int p1)] := hl
  rw [fX3_stray] at hm
  refine lv_aload_n hx hb dX3_stray_0 rfl (lv_at hl 0 rfl) ?_
  refine lv_iload_n hx hb dX3_stray_1 rfl (lv_at hl 1 rfl) ?_
  obtain ⟨r1, hcl, hm⟩ := bnd hm
  refine kVW C X (kX3_isKept l g a p1 u r1 hcl) (cw_X3_stray_X3_isKept_52 C) 0 (ci := 3) rfl rfl (As := [.int p1]) rfl hl (rest := []) rfl (Nat.le_of_ble_eq_true rfl) (st2 := [.int r1]) rfl dX3_stray_2 ⟨Nat.le_of_ble_eq_true rfl, Nat.le_of_ble_eq_true rfl⟩ (fun H locs X => ?_)
  clear hcl
  obtain ⟨v5, hE, hm⟩ := bnd hm
  have K : ∀ (H : Heap) (locs : List Loc) (ls : Array Slot), ST g A s H locs (wS g a u) → lv_has ls 2 [] → W p l e rX3_stray s m args below meth c H locs 0 0 (kEnd g below args s (some (.int o1)) (wS g a u) A 0 0) (F0 m 27 ls [.int v5]) := by
    intro H locs ls X hl
    clear hE
    cases sm hm
    exact kiret C X dX3_stray_27
  clear hm
  have hm := hE
  clear hE
  refine lv_if_eq (tgt := 12) hx hb dX3_stray_5 (by decide) (fun hc => ?_) (fun hc => ?_)
  · have hm := ifp hc hm
    refine lv_aload_n hx hb dX3_stray_12 rfl (lv_at hl 0 rfl) ?_
    refine lv_iload_n hx hb dX3_stray_13 rfl (lv_at hl 1 rfl) ?_
    refine lv_aload_n hx hb dX3_stray_14 rfl (lv_at hl 0 rfl) ?_
    refine lv_iload_n hx hb dX3_stray_15 rfl (lv_at hl 1 rfl) ?_
    obtain ⟨r6, hcl, hm⟩ := bnd hm
    refine kVW C X (kX3_keptBefore l g a p1 u r6 hcl) (cw_X3_stray_X3_keptBefore_79 C) 0 (ci := 3) rfl rfl (As := [.int p1]) rfl hl (rest := [.int p1, .ref (a 0)]) rfl (Nat.le_of_ble_eq_true rfl) (st2 := [.int r6, .int p1, .ref (a 0)]) rfl dX3_stray_16 ⟨Nat.le_of_ble_eq_true rfl, Nat.le_of_ble_eq_true rfl⟩ (fun H locs X => ?_)
    clear hcl
    refine lv_aload_n hx hb dX3_stray_19 rfl (lv_at hl 0 rfl) ?_
    refine lv_iload_n hx hb dX3_stray_20 rfl (lv_at hl 1 rfl) ?_
    obtain ⟨r7, hcl, hm⟩ := bnd hm
    refine kVW C X (kX3_keptBehind l g a p1 u r7 hcl) (cw_X3_stray_X3_keptBehind_82 C) 0 (ci := 3) rfl rfl (As := [.int p1]) rfl hl (rest := [.int r6, .int p1, .ref (a 0)]) rfl (Nat.le_of_ble_eq_true rfl) (st2 := [.int r7, .int r6, .int p1, .ref (a 0)]) rfl dX3_stray_21 ⟨Nat.le_of_ble_eq_true rfl, Nat.le_of_ble_eq_true rfl⟩ (fun H locs X => ?_)
    clear hcl
    obtain ⟨r8, hcl, hm⟩ := bnd hm
    refine kVW C X (kX3_hundredths l g a p1 r6 r7 u r8 hcl) (cw_X3_stray_X3_hundredths_85 C) 0 (ci := 3) rfl rfl (As := [.int p1, .int r6, .int r7]) rfl hl (rest := []) rfl (Nat.le_of_ble_eq_true rfl) (st2 := [.int r8]) rfl dX3_stray_24 ⟨Nat.le_of_ble_eq_true rfl, Nat.le_of_ble_eq_true rfl⟩ (fun H locs X => ?_)
    clear hcl
    cases sm hm
    exact K _ _ _ X (lv_sub hl [] rfl)
  · have hm := ifn hc hm
    refine lv_iconst (v := 0) hx hb dX3_stray_8 (by decide) ?_
    refine lv_goto (tgt := 27) hx hb dX3_stray_9 (by decide) ?_
    cases sm hm
    exact K _ _ _ X (lv_sub hl [] rfl)
-- X3 BrushStrokes$Stroke.firstOfGreatestStray()I
abbrev rX3_firstOfGreatestStray : Room := { frames := 5, cells := 0, slots := 0, locals := 116 }
theorem fl_X3_firstOfGreatestStray_15 : (Cond.fieldLink RX3 15 "BrushStrokes$Stroke" "size" "I") ∈ wsX3_firstOfGreatestStray := by decide +kernel
theorem in_X3_firstOfGreatestStray_X3 : ∀ w ∈ u_ws RX3 TX3 3, w ∈ wsX3_firstOfGreatestStray := by decide +kernel
theorem cw_X3_firstOfGreatestStray_X3_stray_89 {p : Program} {s : State} {m : MethodId} {args : Array Value} {meth : Method} {c : Code} {g : kG} {A : Nat → Prop} (C : CT g p s m args meth c RX3 cX3_firstOfGreatestStray 5 (some .int) wsX3_firstOfGreatestStray A) : CallW rX3_firstOfGreatestStray s args RX3 RX3 89 yX3_stray cX3_stray 2 (some .int) wsX3_stray rX3_stray 0 0 1 := cwV 1 C.2.2.2.2.2.1 gX3_firstOfGreatestStray_X3_stray rfl rfl rfl (by decide +kernel) ⟨Nat.le_of_ble_eq_true rfl, Nat.le_of_ble_eq_true rfl⟩
noncomputable def bX3_firstOfGreatestStray_6 (w4 : SS) : Int32 × Int32 × Int32 → Option ((Int32 × Int32 × Int32) ⊕ (Int32))
  | (x1, x2, x3) => if (S_size w4) ≤ x3 then (some (.inr x1)) else ((fX3_stray x3 w4).bind fun r6 => ((if r6 ≤ x2 then (some (x1, x2)) else (some (x3, r6))) : Option (Int32 × Int32)).bind fun (v7, v8) => some (.inl (v7, v8, x3 + 1)))
noncomputable def lX3_firstOfGreatestStray_6 (w4 : SS) (x1 : Int32) (x2 : Int32) (x3 : Int32) : Option (Int32) := lp (bX3_firstOfGreatestStray_6 w4) (x1, x2, x3)
theorem lX3_firstOfGreatestStray_6_eq (w4 : SS) (x1 : Int32) (x2 : Int32) (x3 : Int32) : lX3_firstOfGreatestStray_6 w4 x1 x2 x3 = (if (S_size w4) ≤ x3 then (some (.inr x1)) else ((fX3_stray x3 w4).bind fun r6 => ((if r6 ≤ x2 then (some (x1, x2)) else (some (x3, r6))) : Option (Int32 × Int32)).bind fun (v7, v8) => some (.inl (v7, v8, x3 + 1)))).bind fun r => Sum.elim (fun z => lX3_firstOfGreatestStray_6 w4 z.1 z.2.1 z.2.2) (fun r => some r) r := lp_eq (bX3_firstOfGreatestStray_6 w4) (x1, x2, x3)
set_option maxRecDepth 100000 in
set_option maxHeartbeats 4000000 in
theorem tX3_firstOfGreatestStray_6 {p : Program} {l : Launch} {e : Env} {s : State} {m : MethodId} {args : Array Value} {below : List Frame} {meth : Method} {c : Code} {g : kG} {A : Nat → Prop} {Q : State → Prop} (a : Nat → Nat) (C : CT g p s m args meth c RX3 cX3_firstOfGreatestStray 5 (some .int) wsX3_firstOfGreatestStray A) (w4 : SS) (y5 : Int32) (kk : ∀ (H : Heap) (locs : List Loc) (ls : Array Slot), ST g A s H locs (wS g a w4) → lv_has ls 5 [(1, .int y5)] → W p l e rX3_firstOfGreatestStray s m args below meth c H locs 0 0 Q (F0 m 38 ls [])) : ∀ (n : Nat) (x1 : Int32) (x2 : Int32) (x3 : Int32), whl (bX3_firstOfGreatestStray_6 w4) n (x1, x2, x3) = some y5 → ∀ (H : Heap) (locs : List Loc) (ls : Array Slot), ST g A s H locs (wS g a w4) → lv_has ls 5 [(0, .ref (a 0)), (1, .int x1), (2, .int x2), (3, .int x3)] → W p l e rX3_firstOfGreatestStray s m args below meth c H locs 0 0 Q (F0 m 6 ls []) := by
  have hx := C.1
  have hb := C.2.1
  have hinX3 := in_X3_firstOfGreatestStray_X3
  have hf15 := C.2.2.2.2.2.1 _ fl_X3_firstOfGreatestStray_15
  intro n
  induction n with
  | zero =>
    intro x1 x2 x3 hm
    cases hm
  | succ n ih =>
    intro x1 x2 x3 hm H locs ls X hl
    rw [whl] at hm
    obtain ⟨q, hq, hm2⟩ := bnd hm
    clear hm
    have hm := hq
    clear hq
    rw [bX3_firstOfGreatestStray_6] at hm
    refine lv_iload_n hx hb dX3_firstOfGreatestStray_6 rfl (lv_at hl 3 rfl) ?_
    refine lv_aload_n hx hb dX3_firstOfGreatestStray_7 rfl (lv_at hl 0 rfl) ?_
    refine kget C X 0 (ci := 3) rfl rfl hinX3 1 (by decide) hf15 (v := .int (S_size w4)) rfl dX3_firstOfGreatestStray_8 ?_
    refine lv_icmp_ge (tgt := 38) hx hb dX3_firstOfGreatestStray_11 (by decide) (fun hc => ?_) (fun hc => ?_)
    · have hm := ifp hc hm
      cases sm hm
      cases sm hm2
      exact kk _ _ _ X (lv_sub hl [1] rfl)
    · have hm := ifn hc hm
      refine lv_aload_n hx hb dX3_firstOfGreatestStray_14 rfl (lv_at hl 0 rfl) ?_
      refine lv_iload_n hx hb dX3_firstOfGreatestStray_15 rfl (lv_at hl 3 rfl) ?_
      obtain ⟨r6, hcl, hm⟩ := bnd hm
      refine kVW C X (kX3_stray l g a x3 w4 r6 hcl) (cw_X3_firstOfGreatestStray_X3_stray_89 C) 0 (ci := 3) rfl rfl (As := [.int x3]) rfl hl (rest := []) rfl (Nat.le_of_ble_eq_true rfl) (st2 := [.int r6]) rfl dX3_firstOfGreatestStray_16 ⟨Nat.le_of_ble_eq_true rfl, Nat.le_of_ble_eq_true rfl⟩ (fun H locs X => ?_)
      clear hcl
      refine lv_istore (lv' := [(4, .int r6), (0, .ref (a 0)), (1, .int x1), (2, .int x2), (3, .int x3)]) hx hb dX3_firstOfGreatestStray_19 hl (by decide) rfl (fun ls hl => ?_)
      refine lv_iload hx hb dX3_firstOfGreatestStray_21 (lv_at hl 0 rfl) ?_
      refine lv_iload_n hx hb dX3_firstOfGreatestStray_23 rfl (lv_at hl 3 rfl) ?_
      obtain ⟨⟨v7, v8⟩, hE, hm⟩ := bnd hm
      have K : ∀ (H : Heap) (locs : List Loc) (ls : Array Slot), ST g A s H locs (wS g a w4) → lv_has ls 5 [(0, .ref (a 0)), (1, .int v7), (2, .int v8), (3, .int x3)] → W p l e rX3_firstOfGreatestStray s m args below meth c H locs 0 0 Q (F0 m 32 ls []) := by
        intro H locs ls X hl
        clear hE
        refine lv_iinc (v := x3 + 1) (lv' := [(3, .int (x3 + 1)), (0, .ref (a 0)), (1, .int v7), (2, .int v8)]) hx hb dX3_firstOfGreatestStray_32 hl (k := 3) rfl rfl (by decide) rfl (fun ls hl => ?_)
        refine lv_goto (tgt := 6) hx hb dX3_firstOfGreatestStray_35 (by decide) ?_
        cases sm hm
        exact ih _ _ _ hm2 _ _ _ X (lv_sub hl [1, 2, 3, 0] rfl)
      clear hm
      have hm := hE
      clear hE
      refine lv_icmp_le (tgt := 32) hx hb dX3_firstOfGreatestStray_24 (by decide) (fun hc => ?_) (fun hc => ?_)
      · have hm := ifp hc hm
        cases sm hm
        exact K _ _ _ X (lv_sub hl [1, 2, 3, 4] rfl)
      · have hm := ifn hc hm
        refine lv_iload hx hb dX3_firstOfGreatestStray_27 (lv_at hl 0 rfl) ?_
        refine lv_istore_n (lv' := [(2, .int r6), (4, .int r6), (0, .ref (a 0)), (1, .int x1), (3, .int x3)]) hx hb dX3_firstOfGreatestStray_29 rfl hl (by decide) rfl (fun ls hl => ?_)
        refine lv_iload_n hx hb dX3_firstOfGreatestStray_30 rfl (lv_at hl 4 rfl) ?_
        refine lv_istore_n (lv' := [(1, .int x3), (2, .int r6), (4, .int r6), (0, .ref (a 0)), (3, .int x3)]) hx hb dX3_firstOfGreatestStray_31 rfl hl (by decide) rfl (fun ls hl => ?_)
        cases sm hm
        exact K _ _ _ X (lv_sub hl [3, 0, 1, 4] rfl)
noncomputable def fX3_firstOfGreatestStray (u : SS) : Option (Int32) := (lX3_firstOfGreatestStray_6 u 0 0 0).bind fun y9 => some y9
set_option maxRecDepth 100000 in
set_option maxHeartbeats 4000000 in
theorem kX3_firstOfGreatestStray (l : Launch) (g : kG) (a : Nat → Nat) (u : SS) (o1 : Int32) (hm : fX3_firstOfGreatestStray u = some o1) : KM l yX3_firstOfGreatestStray wsX3_firstOfGreatestStray rX3_firstOfGreatestStray g [.ref (a 0)] (wS g a u) (some (.int o1)) (wS g a u) 0 0 := by
  refine KM.of (nL := 5) (by decide) rfl (Nat.le_of_ble_eq_true rfl) ?_
  intro p e s m args below meth c A ls C X hl
  have C : CT g p s m args meth c RX3 cX3_firstOfGreatestStray 5 (some .int) wsX3_firstOfGreatestStray A := C
  have hx := C.1
  have hb := C.2.1
  have hl : lv_has ls 5 [(0, .ref (a 0))] := hl
  rw [fX3_firstOfGreatestStray] at hm
  refine lv_iconst (v := 0) hx hb dX3_firstOfGreatestStray_0 (by decide) ?_
  refine lv_istore_n (lv' := [(1, .int 0), (0, .ref (a 0))]) hx hb dX3_firstOfGreatestStray_1 rfl hl (by decide) rfl (fun ls hl => ?_)
  refine lv_iconst (v := 0) hx hb dX3_firstOfGreatestStray_2 (by decide) ?_
  refine lv_istore_n (lv' := [(2, .int 0), (1, .int 0), (0, .ref (a 0))]) hx hb dX3_firstOfGreatestStray_3 rfl hl (by decide) rfl (fun ls hl => ?_)
  refine lv_iconst (v := 0) hx hb dX3_firstOfGreatestStray_4 (by decide) ?_
  refine lv_istore_n (lv' := [(3, .int 0), (2, .int 0), (1, .int 0), (0, .ref (a 0))]) hx hb dX3_firstOfGreatestStray_5 rfl hl (by decide) rfl (fun ls hl => ?_)
  obtain ⟨y9, hL, hm⟩ := bnd hm
  obtain ⟨nn, hn⟩ := lp_run hL
  refine tX3_firstOfGreatestStray_6 a C u y9 (fun H locs ls X hl => ?_) nn _ _ _ hn _ _ _ X (lv_sub hl [3, 2, 1, 0] rfl)
  clear hL hn
  refine lv_iload_n hx hb dX3_firstOfGreatestStray_38 rfl (lv_at hl 0 rfl) ?_
  cases sm hm
  exact kiret C X dX3_firstOfGreatestStray_39
-- X3 BrushStrokes$Stroke.farthestBetween(II)I
abbrev rX3_farthestBetween : Room := { frames := 2, cells := 0, slots := 0, locals := 58 }
theorem cw_X3_farthestBetween_X3_spread_71 {p : Program} {s : State} {m : MethodId} {args : Array Value} {meth : Method} {c : Code} {g : kG} {A : Nat → Prop} (C : CT g p s m args meth c RX3 cX3_farthestBetween 9 (some .int) wsX3_farthestBetween A) : CallW rX3_farthestBetween s args RX3 RX3 71 yX3_spread cX3_spread 16 (some .long) wsX3_spread rX3_spread 0 0 3 := cwV 3 C.2.2.2.2.2.1 gX3_farthestBetween_X3_spread rfl rfl rfl (by decide +kernel) ⟨Nat.le_of_ble_eq_true rfl, Nat.le_of_ble_eq_true rfl⟩
noncomputable def bX3_farthestBetween_10 (c1 : Int32) (c2 : Int32) (w6 : SS) : Int32 × Int64 × Int32 → Option ((Int32 × Int64 × Int32) ⊕ (Int32))
  | (x3, x4, x5) => if c2 ≤ x5 then (some (.inr x3)) else ((fX3_spread x5 c1 c2 w6).bind fun r8 => ((if r8 ≤ x4 then (some (x3, x4)) else (some (x5, r8))) : Option (Int32 × Int64)).bind fun (v9, v10) => some (.inl (v9, v10, x5 + 1)))
noncomputable def lX3_farthestBetween_10 (c1 : Int32) (c2 : Int32) (w6 : SS) (x3 : Int32) (x4 : Int64) (x5 : Int32) : Option (Int32) := lp (bX3_farthestBetween_10 c1 c2 w6) (x3, x4, x5)
theorem lX3_farthestBetween_10_eq (c1 : Int32) (c2 : Int32) (w6 : SS) (x3 : Int32) (x4 : Int64) (x5 : Int32) : lX3_farthestBetween_10 c1 c2 w6 x3 x4 x5 = (if c2 ≤ x5 then (some (.inr x3)) else ((fX3_spread x5 c1 c2 w6).bind fun r8 => ((if r8 ≤ x4 then (some (x3, x4)) else (some (x5, r8))) : Option (Int32 × Int64)).bind fun (v9, v10) => some (.inl (v9, v10, x5 + 1)))).bind fun r => Sum.elim (fun z => lX3_farthestBetween_10 c1 c2 w6 z.1 z.2.1 z.2.2) (fun r => some r) r := lp_eq (bX3_farthestBetween_10 c1 c2 w6) (x3, x4, x5)
set_option maxRecDepth 100000 in
set_option maxHeartbeats 4000000 in
theorem tX3_farthestBetween_10 {p : Program} {l : Launch} {e : Env} {s : State} {m : MethodId} {args : Array Value} {below : List Frame} {meth : Method} {c : Code} {g : kG} {A : Nat → Prop} {Q : State → Prop} (a : Nat → Nat) (C : CT g p s m args meth c RX3 cX3_farthestBetween 9 (some .int) wsX3_farthestBetween A) (c1 : Int32) (c2 : Int32) (w6 : SS) (y7 : Int32) (kk : ∀ (H : Heap) (locs : List Loc) (ls : Array Slot), ST g A s H locs (wS g a w6) → lv_has ls 9 [(3, .int y7)] → W p l e rX3_farthestBetween s m args below meth c H locs 0 0 Q (F0 m 47 ls [])) : ∀ (n : Nat) (x3 : Int32) (x4 : Int64) (x5 : Int32), whl (bX3_farthestBetween_10 c1 c2 w6) n (x3, x4, x5) = some y7 → ∀ (H : Heap) (locs : List Loc) (ls : Array Slot), ST g A s H locs (wS g a w6) → lv_has ls 9 [(0, .ref (a 0)), (1, .int c1), (2, .int c2), (3, .int x3), (4, .long x4), (6, .int x5)] → W p l e rX3_farthestBetween s m args below meth c H locs 0 0 Q (F0 m 10 ls []) := by
  have hx := C.1
  have hb := C.2.1
  intro n
  induction n with
  | zero =>
    intro x3 x4 x5 hm
    cases hm
  | succ n ih =>
    intro x3 x4 x5 hm H locs ls X hl
    rw [whl] at hm
    obtain ⟨q, hq, hm2⟩ := bnd hm
    clear hm
    have hm := hq
    clear hq
    rw [bX3_farthestBetween_10] at hm
    refine lv_iload hx hb dX3_farthestBetween_10 (lv_at hl 5 rfl) ?_
    refine lv_iload_n hx hb dX3_farthestBetween_12 rfl (lv_at hl 2 rfl) ?_
    refine lv_icmp_ge (tgt := 47) hx hb dX3_farthestBetween_13 (by decide) (fun hc => ?_) (fun hc => ?_)
    · have hm := ifp hc hm
      cases sm hm
      cases sm hm2
      exact kk _ _ _ X (lv_sub hl [3] rfl)
    · have hm := ifn hc hm
      refine lv_aload_n hx hb dX3_farthestBetween_16 rfl (lv_at hl 0 rfl) ?_
      refine lv_iload hx hb dX3_farthestBetween_17 (lv_at hl 5 rfl) ?_
      refine lv_iload_n hx hb dX3_farthestBetween_19 rfl (lv_at hl 1 rfl) ?_
      refine lv_iload_n hx hb dX3_farthestBetween_20 rfl (lv_at hl 2 rfl) ?_
      obtain ⟨r8, hcl, hm⟩ := bnd hm
      refine kVW C X (kX3_spread l g a x5 c1 c2 w6 r8 hcl) (cw_X3_farthestBetween_X3_spread_71 C) 0 (ci := 3) rfl rfl (As := [.int x5, .int c1, .int c2]) rfl hl (rest := []) rfl (Nat.le_of_ble_eq_true rfl) (st2 := [.long r8]) rfl dX3_farthestBetween_21 ⟨Nat.le_of_ble_eq_true rfl, Nat.le_of_ble_eq_true rfl⟩ (fun H locs X => ?_)
      clear hcl
      refine lv_lstore (lv' := [(7, .long r8), (0, .ref (a 0)), (1, .int c1), (2, .int c2), (3, .int x3), (4, .long x4), (6, .int x5)]) hx hb dX3_farthestBetween_24 hl (by decide) rfl (fun ls hl => ?_)
      refine lv_lload hx hb dX3_farthestBetween_26 (lv_at hl 0 rfl) ?_
      refine lv_lload hx hb dX3_farthestBetween_28 (lv_at hl 5 rfl) ?_
      obtain ⟨⟨v9, v10⟩, hE, hm⟩ := bnd hm
      have K : ∀ (H : Heap) (locs : List Loc) (ls : Array Slot), ST g A s H locs (wS g a w6) → lv_has ls 9 [(0, .ref (a 0)), (1, .int c1), (2, .int c2), (3, .int v9), (4, .long v10), (6, .int x5)] → W p l e rX3_farthestBetween s m args below meth c H locs 0 0 Q (F0 m 41 ls []) := by
        intro H locs ls X hl
        clear hE
        refine lv_iinc (v := x5 + 1) (lv' := [(6, .int (x5 + 1)), (0, .ref (a 0)), (1, .int c1), (2, .int c2), (3, .int v9), (4, .long v10)]) hx hb dX3_farthestBetween_41 hl (k := 5) rfl rfl (by decide) rfl (fun ls hl => ?_)
        refine lv_goto (tgt := 10) hx hb dX3_farthestBetween_44 (by decide) ?_
        cases sm hm
        exact ih _ _ _ hm2 _ _ _ X (lv_sub hl [1, 2, 3, 4, 5, 0] rfl)
      clear hm
      have hm := hE
      clear hE
      refine klcmp_le (tgt := 41) hx hb dX3_farthestBetween_30 dX3_farthestBetween_31 (by decide) (fun hc => ?_) (fun hc => ?_)
      · have hm := ifp hc hm
        cases sm hm
        exact K _ _ _ X (lv_sub hl [1, 2, 3, 4, 5, 6] rfl)
      · have hm := ifn hc hm
        refine lv_lload hx hb dX3_farthestBetween_34 (lv_at hl 0 rfl) ?_
        refine lv_lstore (lv' := [(4, .long r8), (7, .long r8), (0, .ref (a 0)), (1, .int c1), (2, .int c2), (3, .int x3), (6, .int x5)]) hx hb dX3_farthestBetween_36 hl (by decide) rfl (fun ls hl => ?_)
        refine lv_iload hx hb dX3_farthestBetween_38 (lv_at hl 6 rfl) ?_
        refine lv_istore_n (lv' := [(3, .int x5), (4, .long r8), (7, .long r8), (0, .ref (a 0)), (1, .int c1), (2, .int c2), (6, .int x5)]) hx hb dX3_farthestBetween_40 rfl hl (by decide) rfl (fun ls hl => ?_)
        cases sm hm
        exact K _ _ _ X (lv_sub hl [3, 4, 5, 0, 1, 6] rfl)
noncomputable def fX3_farthestBetween (p1 : Int32) (p2 : Int32) (u : SS) : Option (Int32) := (lX3_farthestBetween_10 p1 p2 u p1 0 (p1 + 1)).bind fun y11 => some y11
set_option maxRecDepth 100000 in
set_option maxHeartbeats 4000000 in
theorem kX3_farthestBetween (l : Launch) (g : kG) (a : Nat → Nat) (p1 : Int32) (p2 : Int32) (u : SS) (o1 : Int32) (hm : fX3_farthestBetween p1 p2 u = some o1) : KM l yX3_farthestBetween wsX3_farthestBetween rX3_farthestBetween g [.ref (a 0), .int p1, .int p2] (wS g a u) (some (.int o1)) (wS g a u) 0 0 := by
  refine KM.of (nL := 9) (by decide) rfl (Nat.le_of_ble_eq_true rfl) ?_
  intro p e s m args below meth c A ls C X hl
  have C : CT g p s m args meth c RX3 cX3_farthestBetween 9 (some .int) wsX3_farthestBetween A := C
  have hx := C.1
  have hb := C.2.1
  have hl : lv_has ls 9 [(0, .ref (a 0)), (1, .int p1), (2, .int p2)] := hl
  rw [fX3_farthestBetween] at hm
  refine lv_iload_n hx hb dX3_farthestBetween_0 rfl (lv_at hl 1 rfl) ?_
  refine lv_istore_n (lv' := [(3, .int p1), (0, .ref (a 0)), (1, .int p1), (2, .int p2)]) hx hb dX3_farthestBetween_1 rfl hl (by decide) rfl (fun ls hl => ?_)
  refine lv_lconst (v := 0) hx hb dX3_farthestBetween_2 (by decide) ?_
  refine lv_lstore (lv' := [(4, .long 0), (3, .int p1), (0, .ref (a 0)), (1, .int p1), (2, .int p2)]) hx hb dX3_farthestBetween_3 hl (by decide) rfl (fun ls hl => ?_)
  refine lv_iload_n hx hb dX3_farthestBetween_5 rfl (lv_at hl 3 rfl) ?_
  refine lv_iconst (v := 1) hx hb dX3_farthestBetween_6 (by decide) ?_
  refine lv_iadd hx hb dX3_farthestBetween_7 ?_
  refine lv_istore (lv' := [(6, .int (p1 + 1)), (4, .long 0), (3, .int p1), (0, .ref (a 0)), (1, .int p1), (2, .int p2)]) hx hb dX3_farthestBetween_8 hl (by decide) rfl (fun ls hl => ?_)
  obtain ⟨y11, hL, hm⟩ := bnd hm
  obtain ⟨nn, hn⟩ := lp_run hL
  refine tX3_farthestBetween_10 a C p1 p2 u y11 (fun H locs ls X hl => ?_) nn _ _ _ hn _ _ _ X (lv_sub hl [3, 4, 5, 2, 1, 0] rfl)
  clear hL hn
  refine lv_iload_n hx hb dX3_farthestBetween_47 rfl (lv_at hl 0 rfl) ?_
  cases sm hm
  exact kiret C X dX3_farthestBetween_48
-- X3 BrushStrokes$Stroke.isEnd(I)Z
abbrev rX3_isEnd : Room := { frames := 0, cells := 0, slots := 0, locals := 0 }
theorem fl_X3_isEnd_15 : (Cond.fieldLink RX3 15 "BrushStrokes$Stroke" "size" "I") ∈ wsX3_isEnd := by decide +kernel
theorem in_X3_isEnd_X3 : ∀ w ∈ u_ws RX3 TX3 3, w ∈ wsX3_isEnd := by decide +kernel
noncomputable def fX3_isEnd (p1 : Int32) (u : SS) : Option (Int32) := ((if p1 = 0 then (some 1) else (if p1 = ((S_size u) - 1) then (some 1) else (some 0))) : Option (Int32)).bind fun v1 => gd (isb v1) (some v1)
set_option maxRecDepth 100000 in
set_option maxHeartbeats 4000000 in
theorem kX3_isEnd (l : Launch) (g : kG) (a : Nat → Nat) (p1 : Int32) (u : SS) (o1 : Int32) (hm : fX3_isEnd p1 u = some o1) : KM l yX3_isEnd wsX3_isEnd rX3_isEnd g [.ref (a 0), .int p1] (wS g a u) (some (.int o1)) (wS g a u) 0 0 := by
  refine KM.of (nL := 2) (by decide) rfl (Nat.le_of_ble_eq_true rfl) ?_
  intro p e s m args below meth c A ls C X hl
  have C : CT g p s m args meth c RX3 cX3_isEnd 2 (some .boolean) wsX3_isEnd A := C
  have hx := C.1
  have hb := C.2.1
  have hl : lv_has ls 2 [(0, .ref (a 0)), (1, .int p1)] := hl
  have hinX3 := in_X3_isEnd_X3
  have hf15 := C.2.2.2.2.2.1 _ fl_X3_isEnd_15
  rw [fX3_isEnd] at hm
  refine lv_iload_n hx hb dX3_isEnd_0 rfl (lv_at hl 1 rfl) ?_
  obtain ⟨v1, hE, hm⟩ := bnd hm
  have K : ∀ (H : Heap) (locs : List Loc) (ls : Array Slot), ST g A s H locs (wS g a u) → lv_has ls 2 [] → W p l e rX3_isEnd s m args below meth c H locs 0 0 (kEnd g below args s (some (.int o1)) (wS g a u) A 0 0) (F0 m 19 ls [.int v1]) := by
    intro H locs ls X hl
    clear hE
    obtain ⟨hgb, hm⟩ := gd_t hm
    cases sm hm
    exact kzret (isb_n hgb) C X dX3_isEnd_19
  clear hm
  have hm := hE
  clear hE
  refine lv_if_eq (tgt := 14) hx hb dX3_isEnd_1 (by decide) (fun hc => ?_) (fun hc => ?_)
  · have hm := ifp hc hm
    refine lv_iconst (v := 1) hx hb dX3_isEnd_14 (by decide) ?_
    refine lv_goto (tgt := 19) hx hb dX3_isEnd_15 (by decide) ?_
    cases sm hm
    exact K _ _ _ X (lv_sub hl [] rfl)
  · have hm := ifn hc hm
    refine lv_iload_n hx hb dX3_isEnd_4 rfl (lv_at hl 1 rfl) ?_
    refine lv_aload_n hx hb dX3_isEnd_5 rfl (lv_at hl 0 rfl) ?_
    refine kget C X 0 (ci := 3) rfl rfl hinX3 1 (by decide) hf15 (v := .int (S_size u)) rfl dX3_isEnd_6 ?_
    refine lv_iconst (v := 1) hx hb dX3_isEnd_9 (by decide) ?_
    refine lv_isub hx hb dX3_isEnd_10 ?_
    refine lv_icmp_ne (tgt := 18) hx hb dX3_isEnd_11 (by decide) (fun hc => ?_) (fun hc => ?_)
    · have hm := ifn hc hm
      refine lv_iconst (v := 0) hx hb dX3_isEnd_18 (by decide) ?_
      cases sm hm
      exact K _ _ _ X (lv_sub hl [] rfl)
    · have hm := ifp hc hm
      refine lv_iconst (v := 1) hx hb dX3_isEnd_14 (by decide) ?_
      refine lv_goto (tgt := 19) hx hb dX3_isEnd_15 (by decide) ?_
      cases sm hm
      exact K _ _ _ X (lv_sub hl [] rfl)
-- X3 BrushStrokes$Stroke.isSharp(IIII)Z
abbrev rX3_isSharp : Room := { frames := 2, cells := 0, slots := 0, locals := 48 }
theorem cw_X3_isSharp_X3_square_62 {p : Program} {s : State} {m : MethodId} {args : Array Value} {meth : Method} {c : Code} {g : kG} {A : Nat → Prop} (C : CT g p s m args meth c RX3 cX3_isSharp 9 (some .boolean) wsX3_isSharp A) : CallW rX3_isSharp s args RX3 RX3 62 yX3_square cX3_square 7 (some .long) wsX3_square rX3_square 0 0 2 := cwV 2 C.2.2.2.2.2.1 gX3_isSharp_X3_square rfl rfl rfl (by decide +kernel) ⟨Nat.le_of_ble_eq_true rfl, Nat.le_of_ble_eq_true rfl⟩
theorem cw_X3_isSharp_X3_productAt_92 {p : Program} {s : State} {m : MethodId} {args : Array Value} {meth : Method} {c : Code} {g : kG} {A : Nat → Prop} (C : CT g p s m args meth c RX3 cX3_isSharp 9 (some .boolean) wsX3_isSharp A) : CallW rX3_isSharp s args RX3 RX3 92 yX3_productAt cX3_productAt 4 (some .long) wsX3_productAt rX3_productAt 0 0 3 := cwV 3 C.2.2.2.2.2.1 gX3_isSharp_X3_productAt rfl rfl rfl (by decide +kernel) ⟨Nat.le_of_ble_eq_true rfl, Nat.le_of_ble_eq_true rfl⟩
noncomputable def fX3_isSharp (p1 : Int32) (p2 : Int32) (p3 : Int32) (p4 : Int32) (u : SS) : Option (Int32) := (fX3_productAt p1 p2 p3 u).bind fun r1 => (fX3_square p1 p2 u).bind fun r2 => (fX3_square p2 p3 u).bind fun r3 => ((if r1 < 0 then (some 1) else (if (r2 * r3) = 0 then (some 0) else (if ((p4.toInt64 * p4.toInt64) * (r2 * r3)) ≤ ((r1 * r1) * 10000) then (some 0) else (some 1)))) : Option (Int32)).bind fun v4 => gd (isb v4) (some v4)
set_option maxRecDepth 100000 in
set_option maxHeartbeats 4000000 in
theorem kX3_isSharp (l : Launch) (g : kG) (a : Nat → Nat) (p1 : Int32) (p2 : Int32) (p3 : Int32) (p4 : Int32) (u : SS) (o1 : Int32) (hm : fX3_isSharp p1 p2 p3 p4 u = some o1) : KM l yX3_isSharp wsX3_isSharp rX3_isSharp g [.ref (a 0), .int p1, .int p2, .int p3, .int p4] (wS g a u) (some (.int o1)) (wS g a u) 0 0 := by
  refine KM.of (nL := 9) (by decide) rfl (Nat.le_of_ble_eq_true rfl) ?_
  intro p e s m args below meth c A ls C X hl
  have C : CT g p s m args meth c RX3 cX3_isSharp 9 (some .boolean) wsX3_isSharp A := C
  have hx := C.1
  have hb := C.2.1
  have hl : lv_has ls 9 [(0, .ref (a 0)), (1, .int p1), (2, .int p2), (3, .int p3), (4, .int p4)] := hl
  rw [fX3_isSharp] at hm
  refine lv_aload_n hx hb dX3_isSharp_0 rfl (lv_at hl 0 rfl) ?_
  refine lv_iload_n hx hb dX3_isSharp_1 rfl (lv_at hl 1 rfl) ?_
  refine lv_iload_n hx hb dX3_isSharp_2 rfl (lv_at hl 2 rfl) ?_
  refine lv_iload_n hx hb dX3_isSharp_3 rfl (lv_at hl 3 rfl) ?_
  obtain ⟨r1, hcl, hm⟩ := bnd hm
  refine kVW C X (kX3_productAt l g a p1 p2 p3 u r1 hcl) (cw_X3_isSharp_X3_productAt_92 C) 0 (ci := 3) rfl rfl (As := [.int p1, .int p2, .int p3]) rfl hl (rest := []) rfl (Nat.le_of_ble_eq_true rfl) (st2 := [.long r1]) rfl dX3_isSharp_4 ⟨Nat.le_of_ble_eq_true rfl, Nat.le_of_ble_eq_true rfl⟩ (fun H locs X => ?_)
  clear hcl
  refine lv_lstore (lv' := [(5, .long r1), (0, .ref (a 0)), (1, .int p1), (2, .int p2), (3, .int p3), (4, .int p4)]) hx hb dX3_isSharp_7 hl (by decide) rfl (fun ls hl => ?_)
  refine lv_aload_n hx hb dX3_isSharp_9 rfl (lv_at hl 1 rfl) ?_
  refine lv_iload_n hx hb dX3_isSharp_10 rfl (lv_at hl 2 rfl) ?_
  refine lv_iload_n hx hb dX3_isSharp_11 rfl (lv_at hl 3 rfl) ?_
  obtain ⟨r2, hcl, hm⟩ := bnd hm
  refine kVW C X (kX3_square l g a p1 p2 u r2 hcl) (cw_X3_isSharp_X3_square_62 C) 0 (ci := 3) rfl rfl (As := [.int p1, .int p2]) rfl hl (rest := []) rfl (Nat.le_of_ble_eq_true rfl) (st2 := [.long r2]) rfl dX3_isSharp_12 ⟨Nat.le_of_ble_eq_true rfl, Nat.le_of_ble_eq_true rfl⟩ (fun H locs X => ?_)
  clear hcl
  refine lv_aload_n hx hb dX3_isSharp_15 rfl (lv_at hl 1 rfl) ?_
  refine lv_iload_n hx hb dX3_isSharp_16 rfl (lv_at hl 3 rfl) ?_
  refine lv_iload_n hx hb dX3_isSharp_17 rfl (lv_at hl 4 rfl) ?_
  obtain ⟨r3, hcl, hm⟩ := bnd hm
  refine kVW C X (kX3_square l g a p2 p3 u r3 hcl) (cw_X3_isSharp_X3_square_62 C) 0 (ci := 3) rfl rfl (As := [.int p2, .int p3]) rfl hl (rest := [.long r2]) rfl (Nat.le_of_ble_eq_true rfl) (st2 := [.long r3, .long r2]) rfl dX3_isSharp_18 ⟨Nat.le_of_ble_eq_true rfl, Nat.le_of_ble_eq_true rfl⟩ (fun H locs X => ?_)
  clear hcl
  refine lv_lmul hx hb dX3_isSharp_21 ?_
  refine lv_lstore (lv' := [(7, .long (r2 * r3)), (5, .long r1), (0, .ref (a 0)), (1, .int p1), (2, .int p2), (3, .int p3), (4, .int p4)]) hx hb dX3_isSharp_22 hl (by decide) rfl (fun ls hl => ?_)
  refine lv_lload hx hb dX3_isSharp_24 (lv_at hl 1 rfl) ?_
  refine lv_lconst (v := 0) hx hb dX3_isSharp_26 (by decide) ?_
  obtain ⟨v4, hE, hm⟩ := bnd hm
  have K : ∀ (H : Heap) (locs : List Loc) (ls : Array Slot), ST g A s H locs (wS g a u) → lv_has ls 9 [] → W p l e rX3_isSharp s m args below meth c H locs 0 0 (kEnd g below args s (some (.int o1)) (wS g a u) A 0 0) (F0 m 66 ls [.int v4]) := by
    intro H locs ls X hl
    clear hE
    obtain ⟨hgb, hm⟩ := gd_t hm
    cases sm hm
    exact kzret (isb_n hgb) C X dX3_isSharp_66
  clear hm
  have hm := hE
  clear hE
  refine klcmp_lt (tgt := 61) hx hb dX3_isSharp_27 dX3_isSharp_28 (by decide) (fun hc => ?_) (fun hc => ?_)
  · have hm := ifp hc hm
    refine lv_iconst (v := 1) hx hb dX3_isSharp_61 (by decide) ?_
    refine lv_goto (tgt := 66) hx hb dX3_isSharp_62 (by decide) ?_
    cases sm hm
    exact K _ _ _ X (lv_sub hl [] rfl)
  · have hm := ifn hc hm
    refine lv_lload hx hb dX3_isSharp_31 (lv_at hl 0 rfl) ?_
    refine lv_lconst (v := 0) hx hb dX3_isSharp_33 (by decide) ?_
    refine klcmp_eq (tgt := 65) hx hb dX3_isSharp_34 dX3_isSharp_35 (by decide) (fun hc => ?_) (fun hc => ?_)
    · have hm := ifp hc hm
      refine lv_iconst (v := 0) hx hb dX3_isSharp_65 (by decide) ?_
      cases sm hm
      exact K _ _ _ X (lv_sub hl [] rfl)
    · have hm := ifn hc hm
      refine lv_lload hx hb dX3_isSharp_38 (lv_at hl 1 rfl) ?_
      refine lv_lload hx hb dX3_isSharp_40 (lv_at hl 1 rfl) ?_
      refine lv_lmul hx hb dX3_isSharp_42 ?_
      refine lv_ldc2 (v := 10000) hx hb C.2.2.2.2.1 (C.2.2.2.2.2.1 (.constantLong RX3 69 10000) (by decide +kernel)) dX3_isSharp_43 ?_
      refine lv_lmul hx hb dX3_isSharp_46 ?_
      refine lv_iload hx hb dX3_isSharp_47 (lv_at hl 6 rfl) ?_
      refine lv_i2l (v := p4.toInt64) hx hb dX3_isSharp_49 rfl ?_
      refine lv_iload hx hb dX3_isSharp_50 (lv_at hl 6 rfl) ?_
      refine lv_i2l (v := p4.toInt64) hx hb dX3_isSharp_52 rfl ?_
      refine lv_lmul hx hb dX3_isSharp_53 ?_
      refine lv_lload hx hb dX3_isSharp_54 (lv_at hl 0 rfl) ?_
      refine lv_lmul hx hb dX3_isSharp_56 ?_
      refine klcmp_ge (tgt := 65) hx hb dX3_isSharp_57 dX3_isSharp_58 (by decide) (fun hc => ?_) (fun hc => ?_)
      · have hm := ifp hc hm
        refine lv_iconst (v := 0) hx hb dX3_isSharp_65 (by decide) ?_
        cases sm hm
        exact K _ _ _ X (lv_sub hl [] rfl)
      · have hm := ifn hc hm
        refine lv_iconst (v := 1) hx hb dX3_isSharp_61 (by decide) ?_
        refine lv_goto (tgt := 66) hx hb dX3_isSharp_62 (by decide) ?_
        cases sm hm
        exact K _ _ _ X (lv_sub hl [] rfl)
-- X3 BrushStrokes$Stroke.isThin(II)Z
abbrev rX3_isThin : Room := { frames := 1, cells := 0, slots := 0, locals := 22 }
theorem cw_X3_isThin_X3_width_49 {p : Program} {s : State} {m : MethodId} {args : Array Value} {meth : Method} {c : Code} {g : kG} {A : Nat → Prop} (C : CT g p s m args meth c RX3 cX3_isThin 4 (some .boolean) wsX3_isThin A) : CallW rX3_isThin s args RX3 RX3 49 yX3_width cX3_width 3 (some .int) wsX3_width rX3_width 0 0 1 := cwV 1 C.2.2.2.2.2.1 gX3_isThin_X3_width rfl rfl rfl (by decide +kernel) ⟨Nat.le_of_ble_eq_true rfl, Nat.le_of_ble_eq_true rfl⟩
noncomputable def fX3_isThin (p1 : Int32) (p2 : Int32) (u : SS) : Option (Int32) := (fX3_width p1 u).bind fun r1 => (fX3_width (p1 - 1) u).bind fun r2 => ((if r2 < (r1 + p2) then (some 0) else ((fX3_width (p1 + 1) u).bind fun r5 => if r5 < (r1 + p2) then (some 0) else (some 1))) : Option (Int32)).bind fun v4 => gd (isb v4) (some v4)
set_option maxRecDepth 100000 in
set_option maxHeartbeats 4000000 in
theorem kX3_isThin (l : Launch) (g : kG) (a : Nat → Nat) (p1 : Int32) (p2 : Int32) (u : SS) (o1 : Int32) (hm : fX3_isThin p1 p2 u = some o1) : KM l yX3_isThin wsX3_isThin rX3_isThin g [.ref (a 0), .int p1, .int p2] (wS g a u) (some (.int o1)) (wS g a u) 0 0 := by
  refine KM.of (nL := 4) (by decide) rfl (Nat.le_of_ble_eq_true rfl) ?_
  intro p e s m args below meth c A ls C X hl
  have C : CT g p s m args meth c RX3 cX3_isThin 4 (some .boolean) wsX3_isThin A := C
  have hx := C.1
  have hb := C.2.1
  have hl : lv_has ls 4 [(0, .ref (a 0)), (1, .int p1), (2, .int p2)] := hl
  rw [fX3_isThin] at hm
  refine lv_aload_n hx hb dX3_isThin_0 rfl (lv_at hl 0 rfl) ?_
  refine lv_iload_n hx hb dX3_isThin_1 rfl (lv_at hl 1 rfl) ?_
  obtain ⟨r1, hcl, hm⟩ := bnd hm
  refine kVW C X (kX3_width l g a p1 u r1 hcl) (cw_X3_isThin_X3_width_49 C) 0 (ci := 3) rfl rfl (As := [.int p1]) rfl hl (rest := []) rfl (Nat.le_of_ble_eq_true rfl) (st2 := [.int r1]) rfl dX3_isThin_2 ⟨Nat.le_of_ble_eq_true rfl, Nat.le_of_ble_eq_true rfl⟩ (fun H locs X => ?_)
  clear hcl
  refine lv_iload_n hx hb dX3_isThin_5 rfl (lv_at hl 2 rfl) ?_
  refine lv_iadd hx hb dX3_isThin_6 ?_
  refine lv_istore_n (lv' := [(3, .int (r1 + p2)), (0, .ref (a 0)), (1, .int p1), (2, .int p2)]) hx hb dX3_isThin_7 rfl hl (by decide) rfl (fun ls hl => ?_)
  refine lv_iload_n hx hb dX3_isThin_8 rfl (lv_at hl 0 rfl) ?_
  refine lv_aload_n hx hb dX3_isThin_9 rfl (lv_at hl 1 rfl) ?_
  refine lv_iload_n hx hb dX3_isThin_10 rfl (lv_at hl 2 rfl) ?_
  refine lv_iconst (v := 1) hx hb dX3_isThin_11 (by decide) ?_
  refine lv_isub hx hb dX3_isThin_12 ?_
  obtain ⟨r2, hcl, hm⟩ := bnd hm
  refine kVW C X (kX3_width l g a (p1 - 1) u r2 hcl) (cw_X3_isThin_X3_width_49 C) 0 (ci := 3) rfl rfl (As := [.int (p1 - 1)]) rfl hl (rest := [.int (r1 + p2)]) rfl (Nat.le_of_ble_eq_true rfl) (st2 := [.int r2, .int (r1 + p2)]) rfl dX3_isThin_13 ⟨Nat.le_of_ble_eq_true rfl, Nat.le_of_ble_eq_true rfl⟩ (fun H locs X => ?_)
  clear hcl
  obtain ⟨v4, hE, hm⟩ := bnd hm
  have K : ∀ (H : Heap) (locs : List Loc) (ls : Array Slot), ST g A s H locs (wS g a u) → lv_has ls 4 [] → W p l e rX3_isThin s m args below meth c H locs 0 0 (kEnd g below args s (some (.int o1)) (wS g a u) A 0 0) (F0 m 35 ls [.int v4]) := by
    intro H locs ls X hl
    clear hE
    obtain ⟨hgb, hm⟩ := gd_t hm
    cases sm hm
    exact kzret (isb_n hgb) C X dX3_isThin_35
  clear hm
  have hm := hE
  clear hE
  refine lv_icmp_gt (tgt := 34) hx hb dX3_isThin_16 (by decide) (fun hc => ?_) (fun hc => ?_)
  · have hm := ifp hc hm
    refine lv_iconst (v := 0) hx hb dX3_isThin_34 (by decide) ?_
    cases sm hm
    exact K _ _ _ X (lv_sub hl [] rfl)
  · have hm := ifn hc hm
    refine lv_iload_n hx hb dX3_isThin_19 rfl (lv_at hl 0 rfl) ?_
    refine lv_aload_n hx hb dX3_isThin_20 rfl (lv_at hl 1 rfl) ?_
    refine lv_iload_n hx hb dX3_isThin_21 rfl (lv_at hl 2 rfl) ?_
    refine lv_iconst (v := 1) hx hb dX3_isThin_22 (by decide) ?_
    refine lv_iadd hx hb dX3_isThin_23 ?_
    obtain ⟨r5, hcl, hm⟩ := bnd hm
    refine kVW C X (kX3_width l g a (p1 + 1) u r5 hcl) (cw_X3_isThin_X3_width_49 C) 0 (ci := 3) rfl rfl (As := [.int (p1 + 1)]) rfl hl (rest := [.int (r1 + p2)]) rfl (Nat.le_of_ble_eq_true rfl) (st2 := [.int r5, .int (r1 + p2)]) rfl dX3_isThin_24 ⟨Nat.le_of_ble_eq_true rfl, Nat.le_of_ble_eq_true rfl⟩ (fun H locs X => ?_)
    clear hcl
    refine lv_icmp_gt (tgt := 34) hx hb dX3_isThin_27 (by decide) (fun hc => ?_) (fun hc => ?_)
    · have hm := ifp hc hm
      refine lv_iconst (v := 0) hx hb dX3_isThin_34 (by decide) ?_
      cases sm hm
      exact K _ _ _ X (lv_sub hl [] rfl)
    · have hm := ifn hc hm
      refine lv_iconst (v := 1) hx hb dX3_isThin_30 (by decide) ?_
      refine lv_goto (tgt := 35) hx hb dX3_isThin_31 (by decide) ?_
      cases sm hm
      exact K _ _ _ X (lv_sub hl [] rfl)
-- X3 BrushStrokes$Stroke.kind(III)I
abbrev rX3_kind : Room := { frames := 3, cells := 0, slots := 0, locals := 76 }
theorem cw_X3_kind_X3_isSharp_98 {p : Program} {s : State} {m : MethodId} {args : Array Value} {meth : Method} {c : Code} {g : kG} {A : Nat → Prop} (C : CT g p s m args meth c RX3 cX3_kind 4 (some .int) wsX3_kind A) : CallW rX3_kind s args RX3 RX3 98 yX3_isSharp cX3_isSharp 9 (some .boolean) wsX3_isSharp rX3_isSharp 0 0 4 := cwV 4 C.2.2.2.2.2.1 gX3_kind_X3_isSharp rfl rfl rfl (by decide +kernel) ⟨Nat.le_of_ble_eq_true rfl, Nat.le_of_ble_eq_true rfl⟩
theorem cw_X3_kind_X3_isEnd_95 {p : Program} {s : State} {m : MethodId} {args : Array Value} {meth : Method} {c : Code} {g : kG} {A : Nat → Prop} (C : CT g p s m args meth c RX3 cX3_kind 4 (some .int) wsX3_kind A) : CallW rX3_kind s args RX3 RX3 95 yX3_isEnd cX3_isEnd 2 (some .boolean) wsX3_isEnd rX3_isEnd 0 0 1 := cwV 1 C.2.2.2.2.2.1 gX3_kind_X3_isEnd rfl rfl rfl (by decide +kernel) ⟨Nat.le_of_ble_eq_true rfl, Nat.le_of_ble_eq_true rfl⟩
theorem cw_X3_kind_X3_isThin_102 {p : Program} {s : State} {m : MethodId} {args : Array Value} {meth : Method} {c : Code} {g : kG} {A : Nat → Prop} (C : CT g p s m args meth c RX3 cX3_kind 4 (some .int) wsX3_kind A) : CallW rX3_kind s args RX3 RX3 102 yX3_isThin cX3_isThin 4 (some .boolean) wsX3_isThin rX3_isThin 0 0 2 := cwV 2 C.2.2.2.2.2.1 gX3_kind_X3_isThin rfl rfl rfl (by decide +kernel) ⟨Nat.le_of_ble_eq_true rfl, Nat.le_of_ble_eq_true rfl⟩
noncomputable def fX3_kind (p1 : Int32) (p2 : Int32) (p3 : Int32) (u : SS) : Option (Int32) := (fX3_isEnd p1 u).bind fun r1 => if r1 = 0 then ((fX3_isSharp (p1 - 1) p1 (p1 + 1) p2 u).bind fun r2 => ((if r2 = 0 then (some 0) else (some 2)) : Option (Int32)).bind fun v3 => (fX3_isThin p1 p3 u).bind fun r4 => ((if r4 = 0 then (some 0) else (some 4)) : Option (Int32)).bind fun v5 => some (v3 + v5)) else (some 1)
set_option maxRecDepth 100000 in
set_option maxHeartbeats 4000000 in
theorem kX3_kind (l : Launch) (g : kG) (a : Nat → Nat) (p1 : Int32) (p2 : Int32) (p3 : Int32) (u : SS) (o1 : Int32) (hm : fX3_kind p1 p2 p3 u = some o1) : KM l yX3_kind wsX3_kind rX3_kind g [.ref (a 0), .int p1, .int p2, .int p3] (wS g a u) (some (.int o1)) (wS g a u) 0 0 := by
  refine KM.of (nL := 4) (by decide) rfl (Nat.le_of_ble_eq_true rfl) ?_
  intro p e s m args below meth c A ls C X hl
  have C : CT g p s m args meth c RX3 cX3_kind 4 (some .int) wsX3_kind A := C
  have hx := C.1
  have hb := C.2.1
  have hl : lv_has ls 4 [(0, .ref (a 0)), (1, .int p1), (2, .int p2), (3, .int p3)] := hl
  rw [fX3_kind] at hm
  refine lv_aload_n hx hb dX3_kind_0 rfl (lv_at hl 0 rfl) ?_
  refine lv_iload_n hx hb dX3_kind_1 rfl (lv_at hl 1 rfl) ?_
  obtain ⟨r1, hcl, hm⟩ := bnd hm
  refine kVW C X (kX3_isEnd l g a p1 u r1 hcl) (cw_X3_kind_X3_isEnd_95 C) 0 (ci := 3) rfl rfl (As := [.int p1]) rfl hl (rest := []) rfl (Nat.le_of_ble_eq_true rfl) (st2 := [.int r1]) rfl dX3_kind_2 ⟨Nat.le_of_ble_eq_true rfl, Nat.le_of_ble_eq_true rfl⟩ (fun H locs X => ?_)
  clear hcl
  refine lv_if_eq (tgt := 10) hx hb dX3_kind_5 (by decide) (fun hc => ?_) (fun hc => ?_)
  · have hm := ifp hc hm
    refine lv_aload_n hx hb dX3_kind_10 rfl (lv_at hl 0 rfl) ?_
    refine lv_iload_n hx hb dX3_kind_11 rfl (lv_at hl 1 rfl) ?_
    refine lv_iconst (v := 1) hx hb dX3_kind_12 (by decide) ?_
    refine lv_isub hx hb dX3_kind_13 ?_
    refine lv_iload_n hx hb dX3_kind_14 rfl (lv_at hl 1 rfl) ?_
    refine lv_iload_n hx hb dX3_kind_15 rfl (lv_at hl 1 rfl) ?_
    refine lv_iconst (v := 1) hx hb dX3_kind_16 (by decide) ?_
    refine lv_iadd hx hb dX3_kind_17 ?_
    refine lv_iload_n hx hb dX3_kind_18 rfl (lv_at hl 2 rfl) ?_
    obtain ⟨r2, hcl, hm⟩ := bnd hm
    refine kVW C X (kX3_isSharp l g a (p1 - 1) p1 (p1 + 1) p2 u r2 hcl) (cw_X3_kind_X3_isSharp_98 C) 0 (ci := 3) rfl rfl (As := [.int (p1 - 1), .int p1, .int (p1 + 1), .int p2]) rfl hl (rest := []) rfl (Nat.le_of_ble_eq_true rfl) (st2 := [.int r2]) rfl dX3_kind_19 ⟨Nat.le_of_ble_eq_true rfl, Nat.le_of_ble_eq_true rfl⟩ (fun H locs X => ?_)
    clear hcl
    obtain ⟨v3, hE, hm⟩ := bnd hm
    have K : ∀ (H : Heap) (locs : List Loc) (ls : Array Slot), ST g A s H locs (wS g a u) → lv_has ls 4 [(0, .ref (a 0)), (1, .int p1), (3, .int p3)] → W p l e rX3_kind s m args below meth c H locs 0 0 (kEnd g below args s (some (.int o1)) (wS g a u) A 0 0) (F0 m 30 ls [.int v3]) := by
      intro H locs ls X hl
      clear hE
      refine lv_aload_n hx hb dX3_kind_30 rfl (lv_at hl 0 rfl) ?_
      refine lv_iload_n hx hb dX3_kind_31 rfl (lv_at hl 1 rfl) ?_
      refine lv_iload_n hx hb dX3_kind_32 rfl (lv_at hl 2 rfl) ?_
      obtain ⟨r4, hcl, hm⟩ := bnd hm
      refine kVW C X (kX3_isThin l g a p1 p3 u r4 hcl) (cw_X3_kind_X3_isThin_102 C) 0 (ci := 3) rfl rfl (As := [.int p1, .int p3]) rfl hl (rest := [.int v3]) rfl (Nat.le_of_ble_eq_true rfl) (st2 := [.int r4, .int v3]) rfl dX3_kind_33 ⟨Nat.le_of_ble_eq_true rfl, Nat.le_of_ble_eq_true rfl⟩ (fun H locs X => ?_)
      clear hcl
      obtain ⟨v5, hE, hm⟩ := bnd hm
      have K : ∀ (H : Heap) (locs : List Loc) (ls : Array Slot), ST g A s H locs (wS g a u) → lv_has ls 4 [] → W p l e rX3_kind s m args below meth c H locs 0 0 (kEnd g below args s (some (.int o1)) (wS g a u) A 0 0) (F0 m 44 ls [.int v5, .int v3]) := by
        intro H locs ls X hl
        clear hE
        refine lv_iadd hx hb dX3_kind_44 ?_
        cases sm hm
        exact kiret C X dX3_kind_45
      clear hm
      have hm := hE
      clear hE
      refine lv_if_eq (tgt := 43) hx hb dX3_kind_36 (by decide) (fun hc => ?_) (fun hc => ?_)
      · have hm := ifp hc hm
        refine lv_iconst (v := 0) hx hb dX3_kind_43 (by decide) ?_
        cases sm hm
        exact K _ _ _ X (lv_sub hl [] rfl)
      · have hm := ifn hc hm
        refine lv_iconst (v := 4) hx hb dX3_kind_39 (by decide) ?_
        refine lv_goto (tgt := 44) hx hb dX3_kind_40 (by decide) ?_
        cases sm hm
        exact K _ _ _ X (lv_sub hl [] rfl)
    clear hm
    have hm := hE
    clear hE
    refine lv_if_eq (tgt := 29) hx hb dX3_kind_22 (by decide) (fun hc => ?_) (fun hc => ?_)
    · have hm := ifp hc hm
      refine lv_iconst (v := 0) hx hb dX3_kind_29 (by decide) ?_
      cases sm hm
      exact K _ _ _ X (lv_sub hl [0, 1, 3] rfl)
    · have hm := ifn hc hm
      refine lv_iconst (v := 2) hx hb dX3_kind_25 (by decide) ?_
      refine lv_goto (tgt := 30) hx hb dX3_kind_26 (by decide) ?_
      cases sm hm
      exact K _ _ _ X (lv_sub hl [0, 1, 3] rfl)
  · have hm := ifn hc hm
    refine lv_iconst (v := 1) hx hb dX3_kind_8 (by decide) ?_
    cases sm hm
    exact kiret C X dX3_kind_9
