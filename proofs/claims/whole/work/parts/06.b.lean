-- X6 BrushStrokesModel.square(III)J
abbrev rX6_square : Room := { frames := 1, cells := 0, slots := 0, locals := 23 }
theorem cw_X6_square_X6_of_65 {p : Program} {s : State} {m : MethodId} {args : Array Value} {meth : Method} {c : Code} {g : kG} {A : Nat → Prop} (C : CT g p s m args meth c RX6 cX6_square 8 (some .long) wsX6_square A) : CallW rX6_square s args RX6 RX6 65 yX6_of cX6_of 4 (some .int) wsX6_of rX6_of 0 0 3 := cwV 3 C.2.2.2.2.2.1 gX6_square_X6_of rfl rfl rfl (by decide +kernel) ⟨Nat.le_of_ble_eq_true rfl, Nat.le_of_ble_eq_true rfl⟩
noncomputable def fX6_square (p1 : Int32) (p2 : Int32) (p3 : Int32) (u : MS) : Option (Int64) := (fX6_of p1 p3 0 u).bind fun r1 => (fX6_of p1 p2 0 u).bind fun r2 => (fX6_of p1 p3 1 u).bind fun r3 => (fX6_of p1 p2 1 u).bind fun r4 => some ((((r1 - r2).toInt64) * ((r1 - r2).toInt64)) + (((r3 - r4).toInt64) * ((r3 - r4).toInt64)))
set_option maxRecDepth 100000 in
set_option maxHeartbeats 4000000 in
theorem kX6_square (l : Launch) (g : kG) (a : Nat → Nat) (p1 : Int32) (p2 : Int32) (p3 : Int32) (u : MS) (o1 : Int64) (hm : fX6_square p1 p2 p3 u = some o1) : KM l yX6_square wsX6_square rX6_square g [.ref (a 0), .int p1, .int p2, .int p3] (wM g a u) (some (.long o1)) (wM g a u) 0 0 := by
  refine KM.of (nL := 8) (by decide) rfl (Nat.le_of_ble_eq_true rfl) ?_
  intro p e s m args below meth c A ls C X hl
  have C : CT g p s m args meth c RX6 cX6_square 8 (some .long) wsX6_square A := C
  have hx := C.1
  have hb := C.2.1
  have hl : lv_has ls 8 [(0, .ref (a 0)), (1, .int p1), (2, .int p2), (3, .int p3)] := hl
  rw [fX6_square] at hm
  refine lv_aload_n hx hb dX6_square_0 rfl (lv_at hl 0 rfl) ?_
  refine lv_iload_n hx hb dX6_square_1 rfl (lv_at hl 1 rfl) ?_
  refine lv_iload_n hx hb dX6_square_2 rfl (lv_at hl 3 rfl) ?_
  refine lv_iconst (v := 0) hx hb dX6_square_3 (by decide) ?_
  obtain ⟨r1, hcl, hm⟩ := bnd hm
  refine kVW C X (kX6_of l g a p1 p3 0 u r1 hcl) (cw_X6_square_X6_of_65 C) 0 (ci := 6) rfl rfl (As := [.int p1, .int p3, .int 0]) rfl hl (rest := []) rfl (Nat.le_of_ble_eq_true rfl) (st2 := [.int r1]) rfl dX6_square_4 ⟨Nat.le_of_ble_eq_true rfl, Nat.le_of_ble_eq_true rfl⟩ (fun H locs X => ?_)
  clear hcl
  refine lv_aload_n hx hb dX6_square_7 rfl (lv_at hl 0 rfl) ?_
  refine lv_iload_n hx hb dX6_square_8 rfl (lv_at hl 1 rfl) ?_
  refine lv_iload_n hx hb dX6_square_9 rfl (lv_at hl 2 rfl) ?_
  refine lv_iconst (v := 0) hx hb dX6_square_10 (by decide) ?_
  obtain ⟨r2, hcl, hm⟩ := bnd hm
  refine kVW C X (kX6_of l g a p1 p2 0 u r2 hcl) (cw_X6_square_X6_of_65 C) 0 (ci := 6) rfl rfl (As := [.int p1, .int p2, .int 0]) rfl hl (rest := [.int r1]) rfl (Nat.le_of_ble_eq_true rfl) (st2 := [.int r2, .int r1]) rfl dX6_square_11 ⟨Nat.le_of_ble_eq_true rfl, Nat.le_of_ble_eq_true rfl⟩ (fun H locs X => ?_)
  clear hcl
  refine lv_isub hx hb dX6_square_14 ?_
  refine lv_i2l (v := (r1 - r2).toInt64) hx hb dX6_square_15 rfl ?_
  refine lv_lstore (lv' := [(4, .long ((r1 - r2).toInt64)), (0, .ref (a 0)), (1, .int p1), (2, .int p2), (3, .int p3)]) hx hb dX6_square_16 hl (by decide) rfl (fun ls hl => ?_)
  refine lv_aload_n hx hb dX6_square_18 rfl (lv_at hl 1 rfl) ?_
  refine lv_iload_n hx hb dX6_square_19 rfl (lv_at hl 2 rfl) ?_
  refine lv_iload_n hx hb dX6_square_20 rfl (lv_at hl 4 rfl) ?_
  refine lv_iconst (v := 1) hx hb dX6_square_21 (by decide) ?_
  obtain ⟨r3, hcl, hm⟩ := bnd hm
  refine kVW C X (kX6_of l g a p1 p3 1 u r3 hcl) (cw_X6_square_X6_of_65 C) 0 (ci := 6) rfl rfl (As := [.int p1, .int p3, .int 1]) rfl hl (rest := []) rfl (Nat.le_of_ble_eq_true rfl) (st2 := [.int r3]) rfl dX6_square_22 ⟨Nat.le_of_ble_eq_true rfl, Nat.le_of_ble_eq_true rfl⟩ (fun H locs X => ?_)
  clear hcl
  refine lv_aload_n hx hb dX6_square_25 rfl (lv_at hl 1 rfl) ?_
  refine lv_iload_n hx hb dX6_square_26 rfl (lv_at hl 2 rfl) ?_
  refine lv_iload_n hx hb dX6_square_27 rfl (lv_at hl 3 rfl) ?_
  refine lv_iconst (v := 1) hx hb dX6_square_28 (by decide) ?_
  obtain ⟨r4, hcl, hm⟩ := bnd hm
  refine kVW C X (kX6_of l g a p1 p2 1 u r4 hcl) (cw_X6_square_X6_of_65 C) 0 (ci := 6) rfl rfl (As := [.int p1, .int p2, .int 1]) rfl hl (rest := [.int r3]) rfl (Nat.le_of_ble_eq_true rfl) (st2 := [.int r4, .int r3]) rfl dX6_square_29 ⟨Nat.le_of_ble_eq_true rfl, Nat.le_of_ble_eq_true rfl⟩ (fun H locs X => ?_)
  clear hcl
  refine lv_isub hx hb dX6_square_32 ?_
  refine lv_i2l (v := (r3 - r4).toInt64) hx hb dX6_square_33 rfl ?_
  refine lv_lstore (lv' := [(6, .long ((r3 - r4).toInt64)), (4, .long ((r1 - r2).toInt64)), (0, .ref (a 0)), (1, .int p1), (2, .int p2), (3, .int p3)]) hx hb dX6_square_34 hl (by decide) rfl (fun ls hl => ?_)
  refine lv_lload hx hb dX6_square_36 (lv_at hl 1 rfl) ?_
  refine lv_lload hx hb dX6_square_38 (lv_at hl 1 rfl) ?_
  refine lv_lmul hx hb dX6_square_40 ?_
  refine lv_lload hx hb dX6_square_41 (lv_at hl 0 rfl) ?_
  refine lv_lload hx hb dX6_square_43 (lv_at hl 0 rfl) ?_
  refine lv_lmul hx hb dX6_square_45 ?_
  refine lv_ladd hx hb dX6_square_46 ?_
  cases sm hm
  exact klret C X dX6_square_47
-- X6 BrushStrokesModel.findDistance(IIII)V
abbrev rX6_findDistance : Room := { frames := 2, cells := 0, slots := 0, locals := 50 }
theorem fl_X6_findDistance_69 : (Cond.fieldLink RX6 69 "BrushStrokesModel" "below" "J") ∈ wsX6_findDistance := by decide +kernel
theorem fl_X6_findDistance_73 : (Cond.fieldLink RX6 73 "BrushStrokesModel" "above" "J") ∈ wsX6_findDistance := by decide +kernel
theorem in_X6_findDistance_X6 : ∀ w ∈ u_ws RX6 TX6 16, w ∈ wsX6_findDistance := by decide +kernel
theorem cw_X6_findDistance_X6_of_65 {p : Program} {s : State} {m : MethodId} {args : Array Value} {meth : Method} {c : Code} {g : kG} {A : Nat → Prop} (C : CT g p s m args meth c RX6 cX6_findDistance 17 none wsX6_findDistance A) : CallW rX6_findDistance s args RX6 RX6 65 yX6_of cX6_of 4 (some .int) wsX6_of rX6_of 0 0 3 := cwV 3 C.2.2.2.2.2.1 gX6_findDistance_X6_of rfl rfl rfl (by decide +kernel) ⟨Nat.le_of_ble_eq_true rfl, Nat.le_of_ble_eq_true rfl⟩
theorem cw_X6_findDistance_X6_square_76 {p : Program} {s : State} {m : MethodId} {args : Array Value} {meth : Method} {c : Code} {g : kG} {A : Nat → Prop} (C : CT g p s m args meth c RX6 cX6_findDistance 17 none wsX6_findDistance A) : CallW rX6_findDistance s args RX6 RX6 76 yX6_square cX6_square 8 (some .long) wsX6_square rX6_square 0 0 3 := cwV 3 C.2.2.2.2.2.1 gX6_findDistance_X6_square rfl rfl rfl (by decide +kernel) ⟨Nat.le_of_ble_eq_true rfl, Nat.le_of_ble_eq_true rfl⟩
noncomputable def fX6_findDistance (p1 : Int32) (p2 : Int32) (p3 : Int32) (p4 : Int32) (u : MS) : Option (MS) := (fX6_of p1 p2 0 u).bind fun r1 => (fX6_of p1 p3 0 u).bind fun r2 => (fX6_of p1 p2 1 u).bind fun r3 => (fX6_of p1 p3 1 u).bind fun r4 => (fX6_of p1 p4 0 u).bind fun r5 => (fX6_of p1 p3 0 u).bind fun r6 => (fX6_of p1 p4 1 u).bind fun r7 => (fX6_of p1 p3 1 u).bind fun r8 => lt ((((r1 - r2).toInt64) * ((r5 - r6).toInt64)) + (((r3 - r4).toInt64) * ((r7 - r8).toInt64))) fun x9 => lt ((((r5 - r6).toInt64) * ((r5 - r6).toInt64)) + (((r7 - r8).toInt64) * ((r7 - r8).toInt64))) fun x10 => lt (M_s_below u 1) fun u11 => ((if 0 < x9 then (if x9 < x10 then (lt (M_s_above u11 (((((r1 - r2).toInt64) * ((r7 - r8).toInt64)) - (((r3 - r4).toInt64) * ((r5 - r6).toInt64))) * ((((r1 - r2).toInt64) * ((r7 - r8).toInt64)) - (((r3 - r4).toInt64) * ((r5 - r6).toInt64))))) fun u18 => lt (M_s_below u18 x10) fun u19 => some u19) else ((fX6_square p1 p4 p2 u11).bind fun r20 => lt (M_s_above u11 r20) fun u21 => some u21)) else (lt (M_s_above u11 ((((r1 - r2).toInt64) * ((r1 - r2).toInt64)) + (((r3 - r4).toInt64) * ((r3 - r4).toInt64)))) fun u22 => some u22)) : Option (MS)).bind fun u17 => some u17
set_option maxRecDepth 100000 in
set_option maxHeartbeats 4000000 in
theorem kX6_findDistance (l : Launch) (g : kG) (a : Nat → Nat) (p1 : Int32) (p2 : Int32) (p3 : Int32) (p4 : Int32) (u : MS) (o1 : MS) (hm : fX6_findDistance p1 p2 p3 p4 u = some o1) : KM l yX6_findDistance wsX6_findDistance rX6_findDistance g [.ref (a 0), .int p1, .int p2, .int p3, .int p4] (wM g a u) none (wM g a o1) 0 0 := by
  refine KM.of (nL := 17) (by decide) rfl (Nat.le_of_ble_eq_true rfl) ?_
  intro p e s m args below meth c A ls C X hl
  have C : CT g p s m args meth c RX6 cX6_findDistance 17 none wsX6_findDistance A := C
  have hx := C.1
  have hb := C.2.1
  have hl : lv_has ls 17 [(0, .ref (a 0)), (1, .int p1), (2, .int p2), (3, .int p3), (4, .int p4)] := hl
  have hinX6 := in_X6_findDistance_X6
  have hf69 := C.2.2.2.2.2.1 _ fl_X6_findDistance_69
  have hf73 := C.2.2.2.2.2.1 _ fl_X6_findDistance_73
  rw [fX6_findDistance] at hm
  refine lv_aload_n hx hb dX6_findDistance_0 rfl (lv_at hl 0 rfl) ?_
  refine lv_iload_n hx hb dX6_findDistance_1 rfl (lv_at hl 1 rfl) ?_
  refine lv_iload_n hx hb dX6_findDistance_2 rfl (lv_at hl 2 rfl) ?_
  refine lv_iconst (v := 0) hx hb dX6_findDistance_3 (by decide) ?_
  obtain ⟨r1, hcl, hm⟩ := bnd hm
  refine kVW C X (kX6_of l g a p1 p2 0 u r1 hcl) (cw_X6_findDistance_X6_of_65 C) 0 (ci := 6) rfl rfl (As := [.int p1, .int p2, .int 0]) rfl hl (rest := []) rfl (Nat.le_of_ble_eq_true rfl) (st2 := [.int r1]) rfl dX6_findDistance_4 ⟨Nat.le_of_ble_eq_true rfl, Nat.le_of_ble_eq_true rfl⟩ (fun H locs X => ?_)
  clear hcl
  refine lv_aload_n hx hb dX6_findDistance_7 rfl (lv_at hl 0 rfl) ?_
  refine lv_iload_n hx hb dX6_findDistance_8 rfl (lv_at hl 1 rfl) ?_
  refine lv_iload_n hx hb dX6_findDistance_9 rfl (lv_at hl 3 rfl) ?_
  refine lv_iconst (v := 0) hx hb dX6_findDistance_10 (by decide) ?_
  obtain ⟨r2, hcl, hm⟩ := bnd hm
  refine kVW C X (kX6_of l g a p1 p3 0 u r2 hcl) (cw_X6_findDistance_X6_of_65 C) 0 (ci := 6) rfl rfl (As := [.int p1, .int p3, .int 0]) rfl hl (rest := [.int r1]) rfl (Nat.le_of_ble_eq_true rfl) (st2 := [.int r2, .int r1]) rfl dX6_findDistance_11 ⟨Nat.le_of_ble_eq_true rfl, Nat.le_of_ble_eq_true rfl⟩ (fun H locs X => ?_)
  clear hcl
  refine lv_isub hx hb dX6_findDistance_14 ?_
  refine lv_i2l (v := (r1 - r2).toInt64) hx hb dX6_findDistance_15 rfl ?_
  refine lv_lstore (lv' := [(5, .long ((r1 - r2).toInt64)), (0, .ref (a 0)), (1, .int p1), (2, .int p2), (3, .int p3), (4, .int p4)]) hx hb dX6_findDistance_16 hl (by decide) rfl (fun ls hl => ?_)
  refine lv_aload_n hx hb dX6_findDistance_18 rfl (lv_at hl 1 rfl) ?_
  refine lv_iload_n hx hb dX6_findDistance_19 rfl (lv_at hl 2 rfl) ?_
  refine lv_iload_n hx hb dX6_findDistance_20 rfl (lv_at hl 3 rfl) ?_
  refine lv_iconst (v := 1) hx hb dX6_findDistance_21 (by decide) ?_
  obtain ⟨r3, hcl, hm⟩ := bnd hm
  refine kVW C X (kX6_of l g a p1 p2 1 u r3 hcl) (cw_X6_findDistance_X6_of_65 C) 0 (ci := 6) rfl rfl (As := [.int p1, .int p2, .int 1]) rfl hl (rest := []) rfl (Nat.le_of_ble_eq_true rfl) (st2 := [.int r3]) rfl dX6_findDistance_22 ⟨Nat.le_of_ble_eq_true rfl, Nat.le_of_ble_eq_true rfl⟩ (fun H locs X => ?_)
  clear hcl
  refine lv_aload_n hx hb dX6_findDistance_25 rfl (lv_at hl 1 rfl) ?_
  refine lv_iload_n hx hb dX6_findDistance_26 rfl (lv_at hl 2 rfl) ?_
  refine lv_iload_n hx hb dX6_findDistance_27 rfl (lv_at hl 4 rfl) ?_
  refine lv_iconst (v := 1) hx hb dX6_findDistance_28 (by decide) ?_
  obtain ⟨r4, hcl, hm⟩ := bnd hm
  refine kVW C X (kX6_of l g a p1 p3 1 u r4 hcl) (cw_X6_findDistance_X6_of_65 C) 0 (ci := 6) rfl rfl (As := [.int p1, .int p3, .int 1]) rfl hl (rest := [.int r3]) rfl (Nat.le_of_ble_eq_true rfl) (st2 := [.int r4, .int r3]) rfl dX6_findDistance_29 ⟨Nat.le_of_ble_eq_true rfl, Nat.le_of_ble_eq_true rfl⟩ (fun H locs X => ?_)
  clear hcl
  refine lv_isub hx hb dX6_findDistance_32 ?_
  refine lv_i2l (v := (r3 - r4).toInt64) hx hb dX6_findDistance_33 rfl ?_
  refine lv_lstore (lv' := [(7, .long ((r3 - r4).toInt64)), (5, .long ((r1 - r2).toInt64)), (0, .ref (a 0)), (1, .int p1), (2, .int p2), (3, .int p3), (4, .int p4)]) hx hb dX6_findDistance_34 hl (by decide) rfl (fun ls hl => ?_)
  refine lv_aload_n hx hb dX6_findDistance_36 rfl (lv_at hl 2 rfl) ?_
  refine lv_iload_n hx hb dX6_findDistance_37 rfl (lv_at hl 3 rfl) ?_
  refine lv_iload hx hb dX6_findDistance_38 (lv_at hl 6 rfl) ?_
  refine lv_iconst (v := 0) hx hb dX6_findDistance_40 (by decide) ?_
  obtain ⟨r5, hcl, hm⟩ := bnd hm
  refine kVW C X (kX6_of l g a p1 p4 0 u r5 hcl) (cw_X6_findDistance_X6_of_65 C) 0 (ci := 6) rfl rfl (As := [.int p1, .int p4, .int 0]) rfl hl (rest := []) rfl (Nat.le_of_ble_eq_true rfl) (st2 := [.int r5]) rfl dX6_findDistance_41 ⟨Nat.le_of_ble_eq_true rfl, Nat.le_of_ble_eq_true rfl⟩ (fun H locs X => ?_)
  clear hcl
  refine lv_aload_n hx hb dX6_findDistance_44 rfl (lv_at hl 2 rfl) ?_
  refine lv_iload_n hx hb dX6_findDistance_45 rfl (lv_at hl 3 rfl) ?_
  refine lv_iload_n hx hb dX6_findDistance_46 rfl (lv_at hl 5 rfl) ?_
  refine lv_iconst (v := 0) hx hb dX6_findDistance_47 (by decide) ?_
  obtain ⟨r6, hcl, hm⟩ := bnd hm
  refine kVW C X (kX6_of l g a p1 p3 0 u r6 hcl) (cw_X6_findDistance_X6_of_65 C) 0 (ci := 6) rfl rfl (As := [.int p1, .int p3, .int 0]) rfl hl (rest := [.int r5]) rfl (Nat.le_of_ble_eq_true rfl) (st2 := [.int r6, .int r5]) rfl dX6_findDistance_48 ⟨Nat.le_of_ble_eq_true rfl, Nat.le_of_ble_eq_true rfl⟩ (fun H locs X => ?_)
  clear hcl
  refine lv_isub hx hb dX6_findDistance_51 ?_
  refine lv_i2l (v := (r5 - r6).toInt64) hx hb dX6_findDistance_52 rfl ?_
  refine lv_lstore (lv' := [(9, .long ((r5 - r6).toInt64)), (7, .long ((r3 - r4).toInt64)), (5, .long ((r1 - r2).toInt64)), (0, .ref (a 0)), (1, .int p1), (2, .int p2), (3, .int p3), (4, .int p4)]) hx hb dX6_findDistance_53 hl (by decide) rfl (fun ls hl => ?_)
  refine lv_aload_n hx hb dX6_findDistance_55 rfl (lv_at hl 3 rfl) ?_
  refine lv_iload_n hx hb dX6_findDistance_56 rfl (lv_at hl 4 rfl) ?_
  refine lv_iload hx hb dX6_findDistance_57 (lv_at hl 7 rfl) ?_
  refine lv_iconst (v := 1) hx hb dX6_findDistance_59 (by decide) ?_
  obtain ⟨r7, hcl, hm⟩ := bnd hm
  refine kVW C X (kX6_of l g a p1 p4 1 u r7 hcl) (cw_X6_findDistance_X6_of_65 C) 0 (ci := 6) rfl rfl (As := [.int p1, .int p4, .int 1]) rfl hl (rest := []) rfl (Nat.le_of_ble_eq_true rfl) (st2 := [.int r7]) rfl dX6_findDistance_60 ⟨Nat.le_of_ble_eq_true rfl, Nat.le_of_ble_eq_true rfl⟩ (fun H locs X => ?_)
  clear hcl
  refine lv_aload_n hx hb dX6_findDistance_63 rfl (lv_at hl 3 rfl) ?_
  refine lv_iload_n hx hb dX6_findDistance_64 rfl (lv_at hl 4 rfl) ?_
  refine lv_iload_n hx hb dX6_findDistance_65 rfl (lv_at hl 6 rfl) ?_
  refine lv_iconst (v := 1) hx hb dX6_findDistance_66 (by decide) ?_
  obtain ⟨r8, hcl, hm⟩ := bnd hm
  refine kVW C X (kX6_of l g a p1 p3 1 u r8 hcl) (cw_X6_findDistance_X6_of_65 C) 0 (ci := 6) rfl rfl (As := [.int p1, .int p3, .int 1]) rfl hl (rest := [.int r7]) rfl (Nat.le_of_ble_eq_true rfl) (st2 := [.int r8, .int r7]) rfl dX6_findDistance_67 ⟨Nat.le_of_ble_eq_true rfl, Nat.le_of_ble_eq_true rfl⟩ (fun H locs X => ?_)
  clear hcl
  refine lv_isub hx hb dX6_findDistance_70 ?_
  refine lv_i2l (v := (r7 - r8).toInt64) hx hb dX6_findDistance_71 rfl ?_
  refine lv_lstore (lv' := [(11, .long ((r7 - r8).toInt64)), (9, .long ((r5 - r6).toInt64)), (7, .long ((r3 - r4).toInt64)), (5, .long ((r1 - r2).toInt64)), (0, .ref (a 0)), (1, .int p1), (2, .int p2), (3, .int p3), (4, .int p4)]) hx hb dX6_findDistance_72 hl (by decide) rfl (fun ls hl => ?_)
  refine lv_lload hx hb dX6_findDistance_74 (lv_at hl 3 rfl) ?_
  refine lv_lload hx hb dX6_findDistance_76 (lv_at hl 1 rfl) ?_
  refine lv_lmul hx hb dX6_findDistance_78 ?_
  refine lv_lload hx hb dX6_findDistance_79 (lv_at hl 2 rfl) ?_
  refine lv_lload hx hb dX6_findDistance_81 (lv_at hl 0 rfl) ?_
  refine lv_lmul hx hb dX6_findDistance_83 ?_
  refine lv_ladd hx hb dX6_findDistance_84 ?_
  refine lv_topl (fun x9 ex => ?_)
  have hm := lt_t ex hm
  clear ex
  refine lv_lstore (lv' := [(13, .long x9), (11, .long ((r7 - r8).toInt64)), (9, .long ((r5 - r6).toInt64)), (7, .long ((r3 - r4).toInt64)), (5, .long ((r1 - r2).toInt64)), (0, .ref (a 0)), (1, .int p1), (2, .int p2), (3, .int p3), (4, .int p4)]) hx hb dX6_findDistance_85 hl (by decide) rfl (fun ls hl => ?_)
  refine lv_lload hx hb dX6_findDistance_87 (lv_at hl 2 rfl) ?_
  refine lv_lload hx hb dX6_findDistance_89 (lv_at hl 2 rfl) ?_
  refine lv_lmul hx hb dX6_findDistance_91 ?_
  refine lv_lload hx hb dX6_findDistance_92 (lv_at hl 1 rfl) ?_
  refine lv_lload hx hb dX6_findDistance_94 (lv_at hl 1 rfl) ?_
  refine lv_lmul hx hb dX6_findDistance_96 ?_
  refine lv_ladd hx hb dX6_findDistance_97 ?_
  refine lv_topl (fun x10 ex => ?_)
  have hm := lt_t ex hm
  clear ex
  refine lv_lstore (lv' := [(15, .long x10), (13, .long x9), (11, .long ((r7 - r8).toInt64)), (9, .long ((r5 - r6).toInt64)), (7, .long ((r3 - r4).toInt64)), (5, .long ((r1 - r2).toInt64)), (0, .ref (a 0)), (1, .int p1), (2, .int p2), (3, .int p3), (4, .int p4)]) hx hb dX6_findDistance_98 hl (by decide) rfl (fun ls hl => ?_)
  refine lv_aload_n hx hb dX6_findDistance_100 rfl (lv_at hl 6 rfl) ?_
  refine lv_lconst (v := 1) hx hb dX6_findDistance_101 (by decide) ?_
  obtain ⟨u11, eu⟩ : ∃ z, z = M_s_below u 1 := ⟨_, rfl⟩
  have hm := lt_t eu hm
  refine kput C X 0 (ci := 6) rfl rfl hinX6 tyX6_ok nmX6 9 (by decide) hf69 rfl (ty := .long) (v := .long 1) rfl rfl rfl (Nat.le_of_ble_eq_true rfl) (w2 := wM g a u11) (by subst eu; rfl) dX6_findDistance_102 (fun H locs X => ?_)
  clear eu
  refine lv_lload hx hb dX6_findDistance_105 (lv_at hl 1 rfl) ?_
  refine lv_lconst (v := 0) hx hb dX6_findDistance_107 (by decide) ?_
  obtain ⟨u17, hE, hm⟩ := bnd hm
  have K : ∀ (H : Heap) (locs : List Loc) (ls : Array Slot), ST g A s H locs (wM g a u17) → lv_has ls 17 [] → W p l e rX6_findDistance s m args below meth c H locs 0 0 (kEnd g below args s none (wM g a o1) A 0 0) (F0 m 186 ls []) := by
    intro H locs ls X hl
    clear hE
    cases sm hm
    exact kvret C X dX6_findDistance_186
  clear hm
  have hm := hE
  clear hE
  refine klcmp_gt (tgt := 130) hx hb dX6_findDistance_108 dX6_findDistance_109 (by decide) (fun hc => ?_) (fun hc => ?_)
  · have hm := ifp hc hm
    refine lv_lload hx hb dX6_findDistance_130 (lv_at hl 1 rfl) ?_
    refine lv_lload hx hb dX6_findDistance_132 (lv_at hl 0 rfl) ?_
    refine klcmp_lt (tgt := 153) hx hb dX6_findDistance_134 dX6_findDistance_135 (by decide) (fun hc => ?_) (fun hc => ?_)
    · have hm := ifp hc hm
      refine lv_aload_n hx hb dX6_findDistance_153 rfl (lv_at hl 6 rfl) ?_
      refine lv_lload hx hb dX6_findDistance_154 (lv_at hl 5 rfl) ?_
      refine lv_lload hx hb dX6_findDistance_156 (lv_at hl 2 rfl) ?_
      refine lv_lmul hx hb dX6_findDistance_158 ?_
      refine lv_lload hx hb dX6_findDistance_159 (lv_at hl 4 rfl) ?_
      refine lv_lload hx hb dX6_findDistance_161 (lv_at hl 3 rfl) ?_
      refine lv_lmul hx hb dX6_findDistance_163 ?_
      refine lv_lsub hx hb dX6_findDistance_164 ?_
      refine lv_lload hx hb dX6_findDistance_165 (lv_at hl 5 rfl) ?_
      refine lv_lload hx hb dX6_findDistance_167 (lv_at hl 2 rfl) ?_
      refine lv_lmul hx hb dX6_findDistance_169 ?_
      refine lv_lload hx hb dX6_findDistance_170 (lv_at hl 4 rfl) ?_
      refine lv_lload hx hb dX6_findDistance_172 (lv_at hl 3 rfl) ?_
      refine lv_lmul hx hb dX6_findDistance_174 ?_
      refine lv_lsub hx hb dX6_findDistance_175 ?_
      refine lv_lmul hx hb dX6_findDistance_176 ?_
      obtain ⟨u18, eu⟩ : ∃ z, z = M_s_above u11 (((((r1 - r2).toInt64) * ((r7 - r8).toInt64)) - (((r3 - r4).toInt64) * ((r5 - r6).toInt64))) * ((((r1 - r2).toInt64) * ((r7 - r8).toInt64)) - (((r3 - r4).toInt64) * ((r5 - r6).toInt64)))) := ⟨_, rfl⟩
      have hm := lt_t eu hm
      refine kput C X 0 (ci := 6) rfl rfl hinX6 tyX6_ok nmX6 8 (by decide) hf73 rfl (ty := .long) (v := .long (((((r1 - r2).toInt64) * ((r7 - r8).toInt64)) - (((r3 - r4).toInt64) * ((r5 - r6).toInt64))) * ((((r1 - r2).toInt64) * ((r7 - r8).toInt64)) - (((r3 - r4).toInt64) * ((r5 - r6).toInt64))))) rfl rfl rfl (Nat.le_of_ble_eq_true rfl) (w2 := wM g a u18) (by subst eu; rfl) dX6_findDistance_177 (fun H locs X => ?_)
      clear eu
      refine lv_aload_n hx hb dX6_findDistance_180 rfl (lv_at hl 6 rfl) ?_
      refine lv_lload hx hb dX6_findDistance_181 (lv_at hl 0 rfl) ?_
      obtain ⟨u19, eu⟩ : ∃ z, z = M_s_below u18 x10 := ⟨_, rfl⟩
      have hm := lt_t eu hm
      refine kput C X 0 (ci := 6) rfl rfl hinX6 tyX6_ok nmX6 9 (by decide) hf69 rfl (ty := .long) (v := .long x10) rfl rfl rfl (Nat.le_of_ble_eq_true rfl) (w2 := wM g a u19) (by subst eu; rfl) dX6_findDistance_183 (fun H locs X => ?_)
      clear eu
      cases sm hm
      exact K _ _ _ X (lv_sub hl [] rfl)
    · have hm := ifn hc hm
      refine lv_aload_n hx hb dX6_findDistance_138 rfl (lv_at hl 6 rfl) ?_
      refine lv_aload_n hx hb dX6_findDistance_139 rfl (lv_at hl 6 rfl) ?_
      refine lv_iload_n hx hb dX6_findDistance_140 rfl (lv_at hl 7 rfl) ?_
      refine lv_iload hx hb dX6_findDistance_141 (lv_at hl 10 rfl) ?_
      refine lv_iload_n hx hb dX6_findDistance_143 rfl (lv_at hl 8 rfl) ?_
      obtain ⟨r20, hcl, hm⟩ := bnd hm
      refine kVW C X (kX6_square l g a p1 p4 p2 u11 r20 hcl) (cw_X6_findDistance_X6_square_76 C) 0 (ci := 6) rfl rfl (As := [.int p1, .int p4, .int p2]) rfl hl (rest := [.ref (a 0)]) rfl (Nat.le_of_ble_eq_true rfl) (st2 := [.long r20, .ref (a 0)]) rfl dX6_findDistance_144 ⟨Nat.le_of_ble_eq_true rfl, Nat.le_of_ble_eq_true rfl⟩ (fun H locs X => ?_)
      clear hcl
      obtain ⟨u21, eu⟩ : ∃ z, z = M_s_above u11 r20 := ⟨_, rfl⟩
      have hm := lt_t eu hm
      refine kput C X 0 (ci := 6) rfl rfl hinX6 tyX6_ok nmX6 8 (by decide) hf73 rfl (ty := .long) (v := .long r20) rfl rfl rfl (Nat.le_of_ble_eq_true rfl) (w2 := wM g a u21) (by subst eu; rfl) dX6_findDistance_147 (fun H locs X => ?_)
      clear eu
      refine lv_goto (tgt := 186) hx hb dX6_findDistance_150 (by decide) ?_
      cases sm hm
      exact K _ _ _ X (lv_sub hl [] rfl)
  · have hm := ifn hc hm
    refine lv_aload_n hx hb dX6_findDistance_112 rfl (lv_at hl 6 rfl) ?_
    refine lv_lload hx hb dX6_findDistance_113 (lv_at hl 5 rfl) ?_
    refine lv_lload hx hb dX6_findDistance_115 (lv_at hl 5 rfl) ?_
    refine lv_lmul hx hb dX6_findDistance_117 ?_
    refine lv_lload hx hb dX6_findDistance_118 (lv_at hl 4 rfl) ?_
    refine lv_lload hx hb dX6_findDistance_120 (lv_at hl 4 rfl) ?_
    refine lv_lmul hx hb dX6_findDistance_122 ?_
    refine lv_ladd hx hb dX6_findDistance_123 ?_
    obtain ⟨u22, eu⟩ : ∃ z, z = M_s_above u11 ((((r1 - r2).toInt64) * ((r1 - r2).toInt64)) + (((r3 - r4).toInt64) * ((r3 - r4).toInt64))) := ⟨_, rfl⟩
    have hm := lt_t eu hm
    refine kput C X 0 (ci := 6) rfl rfl hinX6 tyX6_ok nmX6 8 (by decide) hf73 rfl (ty := .long) (v := .long ((((r1 - r2).toInt64) * ((r1 - r2).toInt64)) + (((r3 - r4).toInt64) * ((r3 - r4).toInt64)))) rfl rfl rfl (Nat.le_of_ble_eq_true rfl) (w2 := wM g a u22) (by subst eu; rfl) dX6_findDistance_124 (fun H locs X => ?_)
    clear eu
    refine lv_goto (tgt := 186) hx hb dX6_findDistance_127 (by decide) ?_
    cases sm hm
    exact K _ _ _ X (lv_sub hl [] rfl)
-- X6 BrushStrokesModel.hundredths(IIII)I
abbrev rX6_hundredths : Room := { frames := 3, cells := 0, slots := 0, locals := 86 }
theorem fl_X6_hundredths_69 : (Cond.fieldLink RX6 69 "BrushStrokesModel" "below" "J") ∈ wsX6_hundredths := by decide +kernel
theorem fl_X6_hundredths_73 : (Cond.fieldLink RX6 73 "BrushStrokesModel" "above" "J") ∈ wsX6_hundredths := by decide +kernel
theorem in_X6_hundredths_X6 : ∀ w ∈ u_ws RX6 TX6 16, w ∈ wsX6_hundredths := by decide +kernel
theorem cw_X6_hundredths_X6_root_86 {p : Program} {s : State} {m : MethodId} {args : Array Value} {meth : Method} {c : Code} {g : kG} {A : Nat → Prop} (C : CT g p s m args meth c RX6 cX6_hundredths 5 (some .int) wsX6_hundredths A) : CallB rX6_hundredths s args RX6 86 yX6_root cX6_root 6 (some .int) wsX6_root rX6_root 0 0 1 ∧ (Cond.static yX6_root).before args s = true := cwS 1 C.2.2.2.2.2.1 gX6_hundredths_X6_root rfl rfl rfl (by decide +kernel) ⟨Nat.le_of_ble_eq_true rfl, Nat.le_of_ble_eq_true rfl⟩
theorem cw_X6_hundredths_X6_findDistance_80 {p : Program} {s : State} {m : MethodId} {args : Array Value} {meth : Method} {c : Code} {g : kG} {A : Nat → Prop} (C : CT g p s m args meth c RX6 cX6_hundredths 5 (some .int) wsX6_hundredths A) : CallW rX6_hundredths s args RX6 RX6 80 yX6_findDistance cX6_findDistance 17 none wsX6_findDistance rX6_findDistance 0 0 4 := cwV 4 C.2.2.2.2.2.1 gX6_hundredths_X6_findDistance rfl rfl rfl (by decide +kernel) ⟨Nat.le_of_ble_eq_true rfl, Nat.le_of_ble_eq_true rfl⟩
noncomputable def fX6_hundredths (p1 : Int32) (p2 : Int32) (p3 : Int32) (p4 : Int32) (u : MS) : Option (Int32 × MS) := (fX6_findDistance p1 p2 p3 p4 u).bind fun u1 => gd (decide (¬ (M_below u1) = 0)) ((fX6_root ((10000 * (M_above u1)) / (M_below u1))).bind fun r2 => some (r2, u1))
set_option maxRecDepth 100000 in
set_option maxHeartbeats 4000000 in
theorem kX6_hundredths (l : Launch) (g : kG) (a : Nat → Nat) (p1 : Int32) (p2 : Int32) (p3 : Int32) (p4 : Int32) (u : MS) (o1 : Int32) (o2 : MS) (hm : fX6_hundredths p1 p2 p3 p4 u = some (o1, o2)) : KM l yX6_hundredths wsX6_hundredths rX6_hundredths g [.ref (a 0), .int p1, .int p2, .int p3, .int p4] (wM g a u) (some (.int o1)) (wM g a o2) 0 0 := by
  refine KM.of (nL := 5) (by decide) rfl (Nat.le_of_ble_eq_true rfl) ?_
  intro p e s m args below meth c A ls C X hl
  have C : CT g p s m args meth c RX6 cX6_hundredths 5 (some .int) wsX6_hundredths A := C
  have hx := C.1
  have hb := C.2.1
  have hl : lv_has ls 5 [(0, .ref (a 0)), (1, .int p1), (2, .int p2), (3, .int p3), (4, .int p4)] := hl
  have hinX6 := in_X6_hundredths_X6
  have hf69 := C.2.2.2.2.2.1 _ fl_X6_hundredths_69
  have hf73 := C.2.2.2.2.2.1 _ fl_X6_hundredths_73
  rw [fX6_hundredths] at hm
  refine lv_aload_n hx hb dX6_hundredths_0 rfl (lv_at hl 0 rfl) ?_
  refine lv_iload_n hx hb dX6_hundredths_1 rfl (lv_at hl 1 rfl) ?_
  refine lv_iload_n hx hb dX6_hundredths_2 rfl (lv_at hl 2 rfl) ?_
  refine lv_iload_n hx hb dX6_hundredths_3 rfl (lv_at hl 3 rfl) ?_
  refine lv_iload hx hb dX6_hundredths_4 (lv_at hl 4 rfl) ?_
  obtain ⟨u1, hcl, hm⟩ := bnd hm
  refine kVW C X (kX6_findDistance l g a p1 p2 p3 p4 u u1 hcl) (cw_X6_hundredths_X6_findDistance_80 C) 0 (ci := 6) rfl rfl (As := [.int p1, .int p2, .int p3, .int p4]) rfl hl (rest := []) rfl (Nat.le_of_ble_eq_true rfl) (st2 := []) rfl dX6_hundredths_6 ⟨Nat.le_of_ble_eq_true rfl, Nat.le_of_ble_eq_true rfl⟩ (fun H locs X => ?_)
  clear hcl
  refine lv_ldc2 (v := 10000) hx hb C.2.2.2.2.1 (C.2.2.2.2.2.1 (.constantLong RX6 84 10000) (by decide +kernel)) dX6_hundredths_9 ?_
  refine lv_aload_n hx hb dX6_hundredths_12 rfl (lv_at hl 0 rfl) ?_
  refine kget C X 0 (ci := 6) rfl rfl hinX6 8 (by decide) hf73 (v := .long (M_above u1)) rfl dX6_hundredths_13 ?_
  refine lv_lmul hx hb dX6_hundredths_16 ?_
  refine lv_aload_n hx hb dX6_hundredths_17 rfl (lv_at hl 0 rfl) ?_
  refine kget C X 0 (ci := 6) rfl rfl hinX6 9 (by decide) hf69 (v := .long (M_below u1)) rfl dX6_hundredths_18 ?_
  obtain ⟨hgv, hm⟩ := gd_t hm
  refine lv_ldiv hx hb dX6_hundredths_21 (of_decide_eq_true hgv) ?_
  obtain ⟨r2, hcl, hm⟩ := bnd hm
  refine kS0 C X (kX6_root l g ((10000 * (M_above u1)) / (M_below u1)) r2 hcl) (cw_X6_hundredths_X6_root_86 C) (As := [.long ((10000 * (M_above u1)) / (M_below u1))]) rfl hl (rest := []) rfl (Nat.le_of_ble_eq_true rfl) (st2 := [.int r2]) rfl dX6_hundredths_22 ⟨Nat.le_of_ble_eq_true rfl, Nat.le_of_ble_eq_true rfl⟩ (fun H locs X => ?_)
  clear hcl
  cases sm hm
  exact kiret C X dX6_hundredths_25
-- X6 BrushStrokesModel.isWithin(IIIII)Z
abbrev rX6_isWithin : Room := { frames := 3, cells := 0, slots := 0, locals := 86 }
theorem fl_X6_isWithin_69 : (Cond.fieldLink RX6 69 "BrushStrokesModel" "below" "J") ∈ wsX6_isWithin := by decide +kernel
theorem fl_X6_isWithin_73 : (Cond.fieldLink RX6 73 "BrushStrokesModel" "above" "J") ∈ wsX6_isWithin := by decide +kernel
theorem in_X6_isWithin_X6 : ∀ w ∈ u_ws RX6 TX6 16, w ∈ wsX6_isWithin := by decide +kernel
theorem cw_X6_isWithin_X6_findDistance_80 {p : Program} {s : State} {m : MethodId} {args : Array Value} {meth : Method} {c : Code} {g : kG} {A : Nat → Prop} (C : CT g p s m args meth c RX6 cX6_isWithin 6 (some .boolean) wsX6_isWithin A) : CallW rX6_isWithin s args RX6 RX6 80 yX6_findDistance cX6_findDistance 17 none wsX6_findDistance rX6_findDistance 0 0 4 := cwV 4 C.2.2.2.2.2.1 gX6_isWithin_X6_findDistance rfl rfl rfl (by decide +kernel) ⟨Nat.le_of_ble_eq_true rfl, Nat.le_of_ble_eq_true rfl⟩
noncomputable def fX6_isWithin (p1 : Int32) (p2 : Int32) (p3 : Int32) (p4 : Int32) (p5 : Int32) (u : MS) : Option (Int32 × MS) := (fX6_findDistance p1 p2 p3 p4 u).bind fun u1 => ((if ((p5.toInt64 * p5.toInt64) * (M_below u1)) < (M_above u1) then (some 0) else (some 1)) : Option (Int32)).bind fun v2 => gd (isb v2) (some (v2, u1))
set_option maxRecDepth 100000 in
set_option maxHeartbeats 4000000 in
theorem kX6_isWithin (l : Launch) (g : kG) (a : Nat → Nat) (p1 : Int32) (p2 : Int32) (p3 : Int32) (p4 : Int32) (p5 : Int32) (u : MS) (o1 : Int32) (o2 : MS) (hm : fX6_isWithin p1 p2 p3 p4 p5 u = some (o1, o2)) : KM l yX6_isWithin wsX6_isWithin rX6_isWithin g [.ref (a 0), .int p1, .int p2, .int p3, .int p4, .int p5] (wM g a u) (some (.int o1)) (wM g a o2) 0 0 := by
  refine KM.of (nL := 6) (by decide) rfl (Nat.le_of_ble_eq_true rfl) ?_
  intro p e s m args below meth c A ls C X hl
  have C : CT g p s m args meth c RX6 cX6_isWithin 6 (some .boolean) wsX6_isWithin A := C
  have hx := C.1
  have hb := C.2.1
  have hl : lv_has ls 6 [(0, .ref (a 0)), (1, .int p1), (2, .int p2), (3, .int p3), (4, .int p4), (5, .int p5)] := hl
  have hinX6 := in_X6_isWithin_X6
  have hf69 := C.2.2.2.2.2.1 _ fl_X6_isWithin_69
  have hf73 := C.2.2.2.2.2.1 _ fl_X6_isWithin_73
  rw [fX6_isWithin] at hm
  refine lv_aload_n hx hb dX6_isWithin_0 rfl (lv_at hl 0 rfl) ?_
  refine lv_iload_n hx hb dX6_isWithin_1 rfl (lv_at hl 1 rfl) ?_
  refine lv_iload_n hx hb dX6_isWithin_2 rfl (lv_at hl 2 rfl) ?_
  refine lv_iload_n hx hb dX6_isWithin_3 rfl (lv_at hl 3 rfl) ?_
  refine lv_iload hx hb dX6_isWithin_4 (lv_at hl 4 rfl) ?_
  obtain ⟨u1, hcl, hm⟩ := bnd hm
  refine kVW C X (kX6_findDistance l g a p1 p2 p3 p4 u u1 hcl) (cw_X6_isWithin_X6_findDistance_80 C) 0 (ci := 6) rfl rfl (As := [.int p1, .int p2, .int p3, .int p4]) rfl hl (rest := []) rfl (Nat.le_of_ble_eq_true rfl) (st2 := []) rfl dX6_isWithin_6 ⟨Nat.le_of_ble_eq_true rfl, Nat.le_of_ble_eq_true rfl⟩ (fun H locs X => ?_)
  clear hcl
  refine lv_aload_n hx hb dX6_isWithin_9 rfl (lv_at hl 0 rfl) ?_
  refine kget C X 0 (ci := 6) rfl rfl hinX6 8 (by decide) hf73 (v := .long (M_above u1)) rfl dX6_isWithin_10 ?_
  refine lv_iload hx hb dX6_isWithin_13 (lv_at hl 5 rfl) ?_
  refine lv_i2l (v := p5.toInt64) hx hb dX6_isWithin_15 rfl ?_
  refine lv_iload hx hb dX6_isWithin_16 (lv_at hl 5 rfl) ?_
  refine lv_i2l (v := p5.toInt64) hx hb dX6_isWithin_18 rfl ?_
  refine lv_lmul hx hb dX6_isWithin_19 ?_
  refine lv_aload_n hx hb dX6_isWithin_20 rfl (lv_at hl 0 rfl) ?_
  refine kget C X 0 (ci := 6) rfl rfl hinX6 9 (by decide) hf69 (v := .long (M_below u1)) rfl dX6_isWithin_21 ?_
  refine lv_lmul hx hb dX6_isWithin_24 ?_
  obtain ⟨v2, hE, hm⟩ := bnd hm
  have K : ∀ (H : Heap) (locs : List Loc) (ls : Array Slot), ST g A s H locs (wM g a u1) → lv_has ls 6 [] → W p l e rX6_isWithin s m args below meth c H locs 0 0 (kEnd g below args s (some (.int o1)) (wM g a o2) A 0 0) (F0 m 34 ls [.int v2]) := by
    intro H locs ls X hl
    clear hE
    obtain ⟨hgb, hm⟩ := gd_t hm
    cases sm hm
    exact kzret (isb_n hgb) C X dX6_isWithin_34
  clear hm
  have hm := hE
  clear hE
  refine klcmp_gt (tgt := 33) hx hb dX6_isWithin_25 dX6_isWithin_26 (by decide) (fun hc => ?_) (fun hc => ?_)
  · have hm := ifp hc hm
    refine lv_iconst (v := 0) hx hb dX6_isWithin_33 (by decide) ?_
    cases sm hm
    exact K _ _ _ X (lv_sub hl [] rfl)
  · have hm := ifn hc hm
    refine lv_iconst (v := 1) hx hb dX6_isWithin_29 (by decide) ?_
    refine lv_goto (tgt := 34) hx hb dX6_isWithin_30 (by decide) ?_
    cases sm hm
    exact K _ _ _ X (lv_sub hl [] rfl)
-- X6 BrushStrokesModel.isSharp(IIIII)Z
abbrev rX6_isSharp : Room := { frames := 1, cells := 0, slots := 0, locals := 23 }
theorem cw_X6_isSharp_X6_of_65 {p : Program} {s : State} {m : MethodId} {args : Array Value} {meth : Method} {c : Code} {g : kG} {A : Nat → Prop} (C : CT g p s m args meth c RX6 cX6_isSharp 18 (some .boolean) wsX6_isSharp A) : CallW rX6_isSharp s args RX6 RX6 65 yX6_of cX6_of 4 (some .int) wsX6_of rX6_of 0 0 3 := cwV 3 C.2.2.2.2.2.1 gX6_isSharp_X6_of rfl rfl rfl (by decide +kernel) ⟨Nat.le_of_ble_eq_true rfl, Nat.le_of_ble_eq_true rfl⟩
noncomputable def fX6_isSharp (p1 : Int32) (p2 : Int32) (p3 : Int32) (p4 : Int32) (p5 : Int32) (u : MS) : Option (Int32) := (fX6_of p1 p3 0 u).bind fun r1 => (fX6_of p1 p2 0 u).bind fun r2 => (fX6_of p1 p3 1 u).bind fun r3 => (fX6_of p1 p2 1 u).bind fun r4 => (fX6_of p1 p4 0 u).bind fun r5 => (fX6_of p1 p3 0 u).bind fun r6 => (fX6_of p1 p4 1 u).bind fun r7 => (fX6_of p1 p3 1 u).bind fun r8 => lt ((((r1 - r2).toInt64) * ((r5 - r6).toInt64)) + (((r3 - r4).toInt64) * ((r7 - r8).toInt64))) fun x9 => lt (((((r1 - r2).toInt64) * ((r1 - r2).toInt64)) + (((r3 - r4).toInt64) * ((r3 - r4).toInt64))) * ((((r5 - r6).toInt64) * ((r5 - r6).toInt64)) + (((r7 - r8).toInt64) * ((r7 - r8).toInt64)))) fun x10 => ((if x9 < 0 then (some 1) else (if x10 = 0 then (some 0) else (if ((p5.toInt64 * p5.toInt64) * x10) ≤ ((x9 * x9) * 10000) then (some 0) else (some 1)))) : Option (Int32)).bind fun v11 => gd (isb v11) (some v11)
set_option maxRecDepth 100000 in
set_option maxHeartbeats 4000000 in
theorem kX6_isSharp (l : Launch) (g : kG) (a : Nat → Nat) (p1 : Int32) (p2 : Int32) (p3 : Int32) (p4 : Int32) (p5 : Int32) (u : MS) (o1 : Int32) (hm : fX6_isSharp p1 p2 p3 p4 p5 u = some o1) : KM l yX6_isSharp wsX6_isSharp rX6_isSharp g [.ref (a 0), .int p1, .int p2, .int p3, .int p4, .int p5] (wM g a u) (some (.int o1)) (wM g a u) 0 0 := by
  refine KM.of (nL := 18) (by decide) rfl (Nat.le_of_ble_eq_true rfl) ?_
  intro p e s m args below meth c A ls C X hl
  have C : CT g p s m args meth c RX6 cX6_isSharp 18 (some .boolean) wsX6_isSharp A := C
  have hx := C.1
  have hb := C.2.1
  have hl : lv_has ls 18 [(0, .ref (a 0)), (1, .int p1), (2, .int p2), (3, .int p3), (4, .int p4), (5, .int p5)] := hl
  rw [fX6_isSharp] at hm
  refine lv_aload_n hx hb dX6_isSharp_0 rfl (lv_at hl 0 rfl) ?_
  refine lv_iload_n hx hb dX6_isSharp_1 rfl (lv_at hl 1 rfl) ?_
  refine lv_iload_n hx hb dX6_isSharp_2 rfl (lv_at hl 3 rfl) ?_
  refine lv_iconst (v := 0) hx hb dX6_isSharp_3 (by decide) ?_
  obtain ⟨r1, hcl, hm⟩ := bnd hm
  refine kVW C X (kX6_of l g a p1 p3 0 u r1 hcl) (cw_X6_isSharp_X6_of_65 C) 0 (ci := 6) rfl rfl (As := [.int p1, .int p3, .int 0]) rfl hl (rest := []) rfl (Nat.le_of_ble_eq_true rfl) (st2 := [.int r1]) rfl dX6_isSharp_4 ⟨Nat.le_of_ble_eq_true rfl, Nat.le_of_ble_eq_true rfl⟩ (fun H locs X => ?_)
  clear hcl
  refine lv_aload_n hx hb dX6_isSharp_7 rfl (lv_at hl 0 rfl) ?_
  refine lv_iload_n hx hb dX6_isSharp_8 rfl (lv_at hl 1 rfl) ?_
  refine lv_iload_n hx hb dX6_isSharp_9 rfl (lv_at hl 2 rfl) ?_
  refine lv_iconst (v := 0) hx hb dX6_isSharp_10 (by decide) ?_
  obtain ⟨r2, hcl, hm⟩ := bnd hm
  refine kVW C X (kX6_of l g a p1 p2 0 u r2 hcl) (cw_X6_isSharp_X6_of_65 C) 0 (ci := 6) rfl rfl (As := [.int p1, .int p2, .int 0]) rfl hl (rest := [.int r1]) rfl (Nat.le_of_ble_eq_true rfl) (st2 := [.int r2, .int r1]) rfl dX6_isSharp_11 ⟨Nat.le_of_ble_eq_true rfl, Nat.le_of_ble_eq_true rfl⟩ (fun H locs X => ?_)
  clear hcl
  refine lv_isub hx hb dX6_isSharp_14 ?_
  refine lv_i2l (v := (r1 - r2).toInt64) hx hb dX6_isSharp_15 rfl ?_
  refine lv_lstore (lv' := [(6, .long ((r1 - r2).toInt64)), (0, .ref (a 0)), (1, .int p1), (2, .int p2), (3, .int p3), (4, .int p4), (5, .int p5)]) hx hb dX6_isSharp_16 hl (by decide) rfl (fun ls hl => ?_)
  refine lv_aload_n hx hb dX6_isSharp_18 rfl (lv_at hl 1 rfl) ?_
  refine lv_iload_n hx hb dX6_isSharp_19 rfl (lv_at hl 2 rfl) ?_
  refine lv_iload_n hx hb dX6_isSharp_20 rfl (lv_at hl 4 rfl) ?_
  refine lv_iconst (v := 1) hx hb dX6_isSharp_21 (by decide) ?_
  obtain ⟨r3, hcl, hm⟩ := bnd hm
  refine kVW C X (kX6_of l g a p1 p3 1 u r3 hcl) (cw_X6_isSharp_X6_of_65 C) 0 (ci := 6) rfl rfl (As := [.int p1, .int p3, .int 1]) rfl hl (rest := []) rfl (Nat.le_of_ble_eq_true rfl) (st2 := [.int r3]) rfl dX6_isSharp_22 ⟨Nat.le_of_ble_eq_true rfl, Nat.le_of_ble_eq_true rfl⟩ (fun H locs X => ?_)
  clear hcl
  refine lv_aload_n hx hb dX6_isSharp_25 rfl (lv_at hl 1 rfl) ?_
  refine lv_iload_n hx hb dX6_isSharp_26 rfl (lv_at hl 2 rfl) ?_
  refine lv_iload_n hx hb dX6_isSharp_27 rfl (lv_at hl 3 rfl) ?_
  refine lv_iconst (v := 1) hx hb dX6_isSharp_28 (by decide) ?_
  obtain ⟨r4, hcl, hm⟩ := bnd hm
  refine kVW C X (kX6_of l g a p1 p2 1 u r4 hcl) (cw_X6_isSharp_X6_of_65 C) 0 (ci := 6) rfl rfl (As := [.int p1, .int p2, .int 1]) rfl hl (rest := [.int r3]) rfl (Nat.le_of_ble_eq_true rfl) (st2 := [.int r4, .int r3]) rfl dX6_isSharp_29 ⟨Nat.le_of_ble_eq_true rfl, Nat.le_of_ble_eq_true rfl⟩ (fun H locs X => ?_)
  clear hcl
  refine lv_isub hx hb dX6_isSharp_32 ?_
  refine lv_i2l (v := (r3 - r4).toInt64) hx hb dX6_isSharp_33 rfl ?_
  refine lv_lstore (lv' := [(8, .long ((r3 - r4).toInt64)), (6, .long ((r1 - r2).toInt64)), (0, .ref (a 0)), (1, .int p1), (2, .int p2), (3, .int p3), (4, .int p4), (5, .int p5)]) hx hb dX6_isSharp_34 hl (by decide) rfl (fun ls hl => ?_)
  refine lv_aload_n hx hb dX6_isSharp_36 rfl (lv_at hl 2 rfl) ?_
  refine lv_iload_n hx hb dX6_isSharp_37 rfl (lv_at hl 3 rfl) ?_
  refine lv_iload hx hb dX6_isSharp_38 (lv_at hl 6 rfl) ?_
  refine lv_iconst (v := 0) hx hb dX6_isSharp_40 (by decide) ?_
  obtain ⟨r5, hcl, hm⟩ := bnd hm
  refine kVW C X (kX6_of l g a p1 p4 0 u r5 hcl) (cw_X6_isSharp_X6_of_65 C) 0 (ci := 6) rfl rfl (As := [.int p1, .int p4, .int 0]) rfl hl (rest := []) rfl (Nat.le_of_ble_eq_true rfl) (st2 := [.int r5]) rfl dX6_isSharp_41 ⟨Nat.le_of_ble_eq_true rfl, Nat.le_of_ble_eq_true rfl⟩ (fun H locs X => ?_)
  clear hcl
  refine lv_aload_n hx hb dX6_isSharp_44 rfl (lv_at hl 2 rfl) ?_
  refine lv_iload_n hx hb dX6_isSharp_45 rfl (lv_at hl 3 rfl) ?_
  refine lv_iload_n hx hb dX6_isSharp_46 rfl (lv_at hl 5 rfl) ?_
  refine lv_iconst (v := 0) hx hb dX6_isSharp_47 (by decide) ?_
  obtain ⟨r6, hcl, hm⟩ := bnd hm
  refine kVW C X (kX6_of l g a p1 p3 0 u r6 hcl) (cw_X6_isSharp_X6_of_65 C) 0 (ci := 6) rfl rfl (As := [.int p1, .int p3, .int 0]) rfl hl (rest := [.int r5]) rfl (Nat.le_of_ble_eq_true rfl) (st2 := [.int r6, .int r5]) rfl dX6_isSharp_48 ⟨Nat.le_of_ble_eq_true rfl, Nat.le_of_ble_eq_true rfl⟩ (fun H locs X => ?_)
  clear hcl
  refine lv_isub hx hb dX6_isSharp_51 ?_
  refine lv_i2l (v := (r5 - r6).toInt64) hx hb dX6_isSharp_52 rfl ?_
  refine lv_lstore (lv' := [(10, .long ((r5 - r6).toInt64)), (8, .long ((r3 - r4).toInt64)), (6, .long ((r1 - r2).toInt64)), (0, .ref (a 0)), (1, .int p1), (2, .int p2), (3, .int p3), (4, .int p4), (5, .int p5)]) hx hb dX6_isSharp_53 hl (by decide) rfl (fun ls hl => ?_)
  refine lv_aload_n hx hb dX6_isSharp_55 rfl (lv_at hl 3 rfl) ?_
  refine lv_iload_n hx hb dX6_isSharp_56 rfl (lv_at hl 4 rfl) ?_
  refine lv_iload hx hb dX6_isSharp_57 (lv_at hl 7 rfl) ?_
  refine lv_iconst (v := 1) hx hb dX6_isSharp_59 (by decide) ?_
  obtain ⟨r7, hcl, hm⟩ := bnd hm
  refine kVW C X (kX6_of l g a p1 p4 1 u r7 hcl) (cw_X6_isSharp_X6_of_65 C) 0 (ci := 6) rfl rfl (As := [.int p1, .int p4, .int 1]) rfl hl (rest := []) rfl (Nat.le_of_ble_eq_true rfl) (st2 := [.int r7]) rfl dX6_isSharp_60 ⟨Nat.le_of_ble_eq_true rfl, Nat.le_of_ble_eq_true rfl⟩ (fun H locs X => ?_)
  clear hcl
  refine lv_aload_n hx hb dX6_isSharp_63 rfl (lv_at hl 3 rfl) ?_
  refine lv_iload_n hx hb dX6_isSharp_64 rfl (lv_at hl 4 rfl) ?_
  refine lv_iload_n hx hb dX6_isSharp_65 rfl (lv_at hl 6 rfl) ?_
  refine lv_iconst (v := 1) hx hb dX6_isSharp_66 (by decide) ?_
  obtain ⟨r8, hcl, hm⟩ := bnd hm
  refine kVW C X (kX6_of l g a p1 p3 1 u r8 hcl) (cw_X6_isSharp_X6_of_65 C) 0 (ci := 6) rfl rfl (As := [.int p1, .int p3, .int 1]) rfl hl (rest := [.int r7]) rfl (Nat.le_of_ble_eq_true rfl) (st2 := [.int r8, .int r7]) rfl dX6_isSharp_67 ⟨Nat.le_of_ble_eq_true rfl, Nat.le_of_ble_eq_true rfl⟩ (fun H locs X => ?_)
  clear hcl
  refine lv_isub hx hb dX6_isSharp_70 ?_
  refine lv_i2l (v := (r7 - r8).toInt64) hx hb dX6_isSharp_71 rfl ?_
  refine lv_lstore (lv' := [(12, .long ((r7 - r8).toInt64)), (10, .long ((r5 - r6).toInt64)), (8, .long ((r3 - r4).toInt64)), (6, .long ((r1 - r2).toInt64)), (0, .ref (a 0)), (1, .int p1), (2, .int p2), (3, .int p3), (4, .int p4), (5, .int p5)]) hx hb dX6_isSharp_72 hl (by decide) rfl (fun ls hl => ?_)
  refine lv_lload hx hb dX6_isSharp_74 (lv_at hl 3 rfl) ?_
  refine lv_lload hx hb dX6_isSharp_76 (lv_at hl 1 rfl) ?_
  refine lv_lmul hx hb dX6_isSharp_78 ?_
  refine lv_lload hx hb dX6_isSharp_79 (lv_at hl 2 rfl) ?_
  refine lv_lload hx hb dX6_isSharp_81 (lv_at hl 0 rfl) ?_
  refine lv_lmul hx hb dX6_isSharp_83 ?_
  refine lv_ladd hx hb dX6_isSharp_84 ?_
  refine lv_topl (fun x9 ex => ?_)
  have hm := lt_t ex hm
  clear ex
  refine lv_lstore (lv' := [(14, .long x9), (12, .long ((r7 - r8).toInt64)), (10, .long ((r5 - r6).toInt64)), (8, .long ((r3 - r4).toInt64)), (6, .long ((r1 - r2).toInt64)), (0, .ref (a 0)), (1, .int p1), (2, .int p2), (3, .int p3), (4, .int p4), (5, .int p5)]) hx hb dX6_isSharp_85 hl (by decide) rfl (fun ls hl => ?_)
  refine lv_lload hx hb dX6_isSharp_87 (lv_at hl 4 rfl) ?_
  refine lv_lload hx hb dX6_isSharp_89 (lv_at hl 4 rfl) ?_
  refine lv_lmul hx hb dX6_isSharp_91 ?_
  refine lv_lload hx hb dX6_isSharp_92 (lv_at hl 3 rfl) ?_
  refine lv_lload hx hb dX6_isSharp_94 (lv_at hl 3 rfl) ?_
  refine lv_lmul hx hb dX6_isSharp_96 ?_
  refine lv_ladd hx hb dX6_isSharp_97 ?_
  refine lv_lload hx hb dX6_isSharp_98 (lv_at hl 2 rfl) ?_
  refine lv_lload hx hb dX6_isSharp_100 (lv_at hl 2 rfl) ?_
  refine lv_lmul hx hb dX6_isSharp_102 ?_
  refine lv_lload hx hb dX6_isSharp_103 (lv_at hl 1 rfl) ?_
  refine lv_lload hx hb dX6_isSharp_105 (lv_at hl 1 rfl) ?_
  refine lv_lmul hx hb dX6_isSharp_107 ?_
  refine lv_ladd hx hb dX6_isSharp_108 ?_
  refine lv_lmul hx hb dX6_isSharp_109 ?_
  refine lv_topl (fun x10 ex => ?_)
  have hm := lt_t ex hm
  clear ex
  refine lv_lstore (lv' := [(16, .long x10), (14, .long x9), (12, .long ((r7 - r8).toInt64)), (10, .long ((r5 - r6).toInt64)), (8, .long ((r3 - r4).toInt64)), (6, .long ((r1 - r2).toInt64)), (0, .ref (a 0)), (1, .int p1), (2, .int p2), (3, .int p3), (4, .int p4), (5, .int p5)]) hx hb dX6_isSharp_110 hl (by decide) rfl (fun ls hl => ?_)
  refine lv_lload hx hb dX6_isSharp_112 (lv_at hl 1 rfl) ?_
  refine lv_lconst (v := 0) hx hb dX6_isSharp_114 (by decide) ?_
  obtain ⟨v11, hE, hm⟩ := bnd hm
  have K : ∀ (H : Heap) (locs : List Loc) (ls : Array Slot), ST g A s H locs (wM g a u) → lv_has ls 18 [] → W p l e rX6_isSharp s m args below meth c H locs 0 0 (kEnd g below args s (some (.int o1)) (wM g a u) A 0 0) (F0 m 154 ls [.int v11]) := by
    intro H locs ls X hl
    clear hE
    obtain ⟨hgb, hm⟩ := gd_t hm
    cases sm hm
    exact kzret (isb_n hgb) C X dX6_isSharp_154
  clear hm
  have hm := hE
  clear hE
  refine klcmp_lt (tgt := 149) hx hb dX6_isSharp_115 dX6_isSharp_116 (by decide) (fun hc => ?_) (fun hc => ?_)
  · have hm := ifp hc hm
    refine lv_iconst (v := 1) hx hb dX6_isSharp_149 (by decide) ?_
    refine lv_goto (tgt := 154) hx hb dX6_isSharp_150 (by decide) ?_
    cases sm hm
    exact K _ _ _ X (lv_sub hl [] rfl)
  · have hm := ifn hc hm
    refine lv_lload hx hb dX6_isSharp_119 (lv_at hl 0 rfl) ?_
    refine lv_lconst (v := 0) hx hb dX6_isSharp_121 (by decide) ?_
    refine klcmp_eq (tgt := 153) hx hb dX6_isSharp_122 dX6_isSharp_123 (by decide) (fun hc => ?_) (fun hc => ?_)
    · have hm := ifp hc hm
      refine lv_iconst (v := 0) hx hb dX6_isSharp_153 (by decide) ?_
      cases sm hm
      exact K _ _ _ X (lv_sub hl [] rfl)
    · have hm := ifn hc hm
      refine lv_lload hx hb dX6_isSharp_126 (lv_at hl 1 rfl) ?_
      refine lv_lload hx hb dX6_isSharp_128 (lv_at hl 1 rfl) ?_
      refine lv_lmul hx hb dX6_isSharp_130 ?_
      refine lv_ldc2 (v := 10000) hx hb C.2.2.2.2.1 (C.2.2.2.2.2.1 (.constantLong RX6 84 10000) (by decide +kernel)) dX6_isSharp_131 ?_
      refine lv_lmul hx hb dX6_isSharp_134 ?_
      refine lv_iload hx hb dX6_isSharp_135 (lv_at hl 11 rfl) ?_
      refine lv_i2l (v := p5.toInt64) hx hb dX6_isSharp_137 rfl ?_
      refine lv_iload hx hb dX6_isSharp_138 (lv_at hl 11 rfl) ?_
      refine lv_i2l (v := p5.toInt64) hx hb dX6_isSharp_140 rfl ?_
      refine lv_lmul hx hb dX6_isSharp_141 ?_
      refine lv_lload hx hb dX6_isSharp_142 (lv_at hl 0 rfl) ?_
      refine lv_lmul hx hb dX6_isSharp_144 ?_
      refine klcmp_ge (tgt := 153) hx hb dX6_isSharp_145 dX6_isSharp_146 (by decide) (fun hc => ?_) (fun hc => ?_)
      · have hm := ifp hc hm
        refine lv_iconst (v := 0) hx hb dX6_isSharp_153 (by decide) ?_
        cases sm hm
        exact K _ _ _ X (lv_sub hl [] rfl)
      · have hm := ifn hc hm
        refine lv_iconst (v := 1) hx hb dX6_isSharp_149 (by decide) ?_
        refine lv_goto (tgt := 154) hx hb dX6_isSharp_150 (by decide) ?_
        cases sm hm
        exact K _ _ _ X (lv_sub hl [] rfl)
-- X6 BrushStrokesModel.fixedBy(II)I
abbrev rX6_fixedBy : Room := { frames := 2, cells := 0, slots := 0, locals := 60 }
theorem fl_X6_fixedBy_7 : (Cond.fieldLink RX6 7 "BrushStrokesModel" "z" "[I") ∈ wsX6_fixedBy := by decide +kernel
theorem in_X6_fixedBy_X6 : ∀ w ∈ u_ws RX6 TX6 16, w ∈ wsX6_fixedBy := by decide +kernel
theorem cw_X6_fixedBy_X6_of_65 {p : Program} {s : State} {m : MethodId} {args : Array Value} {meth : Method} {c : Code} {g : kG} {A : Nat → Prop} (C : CT g p s m args meth c RX6 cX6_fixedBy 5 (some .int) wsX6_fixedBy A) : CallW rX6_fixedBy s args RX6 RX6 65 yX6_of cX6_of 4 (some .int) wsX6_of rX6_of 0 0 3 := cwV 3 C.2.2.2.2.2.1 gX6_fixedBy_X6_of rfl rfl rfl (by decide +kernel) ⟨Nat.le_of_ble_eq_true rfl, Nat.le_of_ble_eq_true rfl⟩
theorem cw_X6_fixedBy_X6_points_47 {p : Program} {s : State} {m : MethodId} {args : Array Value} {meth : Method} {c : Code} {g : kG} {A : Nat → Prop} (C : CT g p s m args meth c RX6 cX6_fixedBy 5 (some .int) wsX6_fixedBy A) : CallW rX6_fixedBy s args RX6 RX6 47 yX6_points cX6_points 2 (some .int) wsX6_points rX6_points 0 0 1 := cwV 1 C.2.2.2.2.2.1 gX6_fixedBy_X6_points rfl rfl rfl (by decide +kernel) ⟨Nat.le_of_ble_eq_true rfl, Nat.le_of_ble_eq_true rfl⟩
theorem cw_X6_fixedBy_X6_isSharp_90 {p : Program} {s : State} {m : MethodId} {args : Array Value} {meth : Method} {c : Code} {g : kG} {A : Nat → Prop} (C : CT g p s m args meth c RX6 cX6_fixedBy 5 (some .int) wsX6_fixedBy A) : CallW rX6_fixedBy s args RX6 RX6 90 yX6_isSharp cX6_isSharp 18 (some .boolean) wsX6_isSharp rX6_isSharp 0 0 5 := cwV 5 C.2.2.2.2.2.1 gX6_fixedBy_X6_isSharp rfl rfl rfl (by decide +kernel) ⟨Nat.le_of_ble_eq_true rfl, Nat.le_of_ble_eq_true rfl⟩
noncomputable def fX6_fixedBy (p1 : Int32) (p2 : Int32) (u : MS) : Option (Int32) := if p2 = 0 then (some 1) else ((fX6_points p1 u).bind fun r1 => if p2 = (r1 - 1) then (some 1) else ((fX6_of p1 p2 2 u).bind fun r2 => gd (inb 299 303) ((fX6_of p1 (p2 - 1) 2 u).bind fun r3 => ((if r3 < (r2 + (M_z u (299 : Int32).toNatClampNeg)) then (some 0) else ((fX6_of p1 (p2 + 1) 2 u).bind fun r6 => if r6 < (r2 + (M_z u (299 : Int32).toNatClampNeg)) then (some 0) else (some 1))) : Option (Int32)).bind fun v5 => gd (inb 298 303) ((fX6_isSharp p1 (p2 - 1) p2 (p2 + 1) (M_z u (298 : Int32).toNatClampNeg) u).bind fun r7 => ((if r7 = 0 then (some 0) else (some 2)) : Option (Int32)).bind fun v8 => ((if v5 = 0 then (some 0) else (some 4)) : Option (Int32)).bind fun v9 => some (v8 + v9)))))
set_option maxRecDepth 100000 in
set_option maxHeartbeats 4000000 in
theorem kX6_fixedBy (l : Launch) (g : kG) (a : Nat → Nat) (p1 : Int32) (p2 : Int32) (u : MS) (o1 : Int32) (hm : fX6_fixedBy p1 p2 u = some o1) : KM l yX6_fixedBy wsX6_fixedBy rX6_fixedBy g [.ref (a 0), .int p1, .int p2] (wM g a u) (some (.int o1)) (wM g a u) 0 0 := by
  refine KM.of (nL := 5) (by decide) rfl (Nat.le_of_ble_eq_true rfl) ?_
  intro p e s m args below meth c A ls C X hl
  have C : CT g p s m args meth c RX6 cX6_fixedBy 5 (some .int) wsX6_fixedBy A := C
  have hx := C.1
  have hb := C.2.1
  have hl : lv_has ls 5 [(0, .ref (a 0)), (1, .int p1), (2, .int p2)] := hl
  have hinX6 := in_X6_fixedBy_X6
  have hf7 := C.2.2.2.2.2.1 _ fl_X6_fixedBy_7
  rw [fX6_fixedBy] at hm
  refine lv_iload_n hx hb dX6_fixedBy_0 rfl (lv_at hl 2 rfl) ?_
  refine lv_if_eq (tgt := 15) hx hb dX6_fixedBy_1 (by decide) (fun hc => ?_) (fun hc => ?_)
  · have hm := ifp hc hm
    refine lv_iconst (v := 1) hx hb dX6_fixedBy_15 (by decide) ?_
    cases sm hm
    exact kiret C X dX6_fixedBy_16
  · have hm := ifn hc hm
    refine lv_iload_n hx hb dX6_fixedBy_4 rfl (lv_at hl 2 rfl) ?_
    refine lv_aload_n hx hb dX6_fixedBy_5 rfl (lv_at hl 0 rfl) ?_
    refine lv_iload_n hx hb dX6_fixedBy_6 rfl (lv_at hl 1 rfl) ?_
    obtain ⟨r1, hcl, hm⟩ := bnd hm
    refine kVW C X (kX6_points l g a p1 u r1 hcl) (cw_X6_fixedBy_X6_points_47 C) 0 (ci := 6) rfl rfl (As := [.int p1]) rfl hl (rest := [.int p2]) rfl (Nat.le_of_ble_eq_true rfl) (st2 := [.int r1, .int p2]) rfl dX6_fixedBy_7 ⟨Nat.le_of_ble_eq_true rfl, Nat.le_of_ble_eq_true rfl⟩ (fun H locs X => ?_)
    clear hcl
    refine lv_iconst (v := 1) hx hb dX6_fixedBy_10 (by decide) ?_
    refine lv_isub hx hb dX6_fixedBy_11 ?_
    refine lv_icmp_ne (tgt := 17) hx hb dX6_fixedBy_12 (by decide) (fun hc => ?_) (fun hc => ?_)
    · have hm := ifn hc hm
      refine lv_aload_n hx hb dX6_fixedBy_17 rfl (lv_at hl 0 rfl) ?_
      refine lv_iload_n hx hb dX6_fixedBy_18 rfl (lv_at hl 1 rfl) ?_
      refine lv_iload_n hx hb dX6_fixedBy_19 rfl (lv_at hl 2 rfl) ?_
      refine lv_iconst (v := 2) hx hb dX6_fixedBy_20 (by decide) ?_
      obtain ⟨r2, hcl, hm⟩ := bnd hm
      refine kVW C X (kX6_of l g a p1 p2 2 u r2 hcl) (cw_X6_fixedBy_X6_of_65 C) 0 (ci := 6) rfl rfl (As := [.int p1, .int p2, .int 2]) rfl hl (rest := []) rfl (Nat.le_of_ble_eq_true rfl) (st2 := [.int r2]) rfl dX6_fixedBy_21 ⟨Nat.le_of_ble_eq_true rfl, Nat.le_of_ble_eq_true rfl⟩ (fun H locs X => ?_)
      clear hcl
      refine lv_aload_n hx hb dX6_fixedBy_24 rfl (lv_at hl 0 rfl) ?_
      refine kget C X 0 (ci := 6) rfl rfl hinX6 1 (by decide) hf7 (v := .ref (a 1)) rfl dX6_fixedBy_25 ?_
      refine lv_sipush (v := 299) hx hb dX6_fixedBy_28 (by decide) ?_
      obtain ⟨hgi, hm⟩ := gd_t hm
      refine kiald C X 1 rfl hgi dX6_fixedBy_31 ?_
      refine lv_iadd hx hb dX6_fixedBy_32 ?_
      refine lv_istore_n (lv' := [(3, .int (r2 + (M_z u (299 : Int32).toNatClampNeg))), (0, .ref (a 0)), (1, .int p1), (2, .int p2)]) hx hb dX6_fixedBy_33 rfl hl (by decide) rfl (fun ls hl => ?_)
      refine lv_iload_n hx hb dX6_fixedBy_34 rfl (lv_at hl 0 rfl) ?_
      refine lv_aload_n hx hb dX6_fixedBy_35 rfl (lv_at hl 1 rfl) ?_
      refine lv_iload_n hx hb dX6_fixedBy_36 rfl (lv_at hl 2 rfl) ?_
      refine lv_iload_n hx hb dX6_fixedBy_37 rfl (lv_at hl 3 rfl) ?_
      refine lv_iconst (v := 1) hx hb dX6_fixedBy_38 (by decide) ?_
      refine lv_isub hx hb dX6_fixedBy_39 ?_
      refine lv_iconst (v := 2) hx hb dX6_fixedBy_40 (by decide) ?_
      obtain ⟨r3, hcl, hm⟩ := bnd hm
      refine kVW C X (kX6_of l g a p1 (p2 - 1) 2 u r3 hcl) (cw_X6_fixedBy_X6_of_65 C) 0 (ci := 6) rfl rfl (As := [.int p1, .int (p2 - 1), .int 2]) rfl hl (rest := [.int (r2 + (M_z u (299 : Int32).toNatClampNeg))]) rfl (Nat.le_of_ble_eq_true rfl) (st2 := [.int r3, .int (r2 + (M_z u (299 : Int32).toNatClampNeg))]) rfl dX6_fixedBy_41 ⟨Nat.le_of_ble_eq_true rfl, Nat.le_of_ble_eq_true rfl⟩ (fun H locs X => ?_)
      clear hcl
      obtain ⟨v5, hE, hm⟩ := bnd hm
      have K : ∀ (H : Heap) (locs : List Loc) (ls : Array Slot), ST g A s H locs (wM g a u) → lv_has ls 5 [(0, .ref (a 0)), (1, .int p1), (2, .int p2)] → W p l e rX6_fixedBy s m args below meth c H locs 0 0 (kEnd g below args s (some (.int o1)) (wM g a u) A 0 0) (F0 m 65 ls [.int v5]) := by
        intro H locs ls X hl
        clear hE
        refine lv_istore (lv' := [(4, .int v5), (0, .ref (a 0)), (1, .int p1), (2, .int p2)]) hx hb dX6_fixedBy_65 hl (by decide) rfl (fun ls hl => ?_)
        refine lv_aload_n hx hb dX6_fixedBy_67 rfl (lv_at hl 1 rfl) ?_
        refine lv_iload_n hx hb dX6_fixedBy_68 rfl (lv_at hl 2 rfl) ?_
        refine lv_iload_n hx hb dX6_fixedBy_69 rfl (lv_at hl 3 rfl) ?_
        refine lv_iconst (v := 1) hx hb dX6_fixedBy_70 (by decide) ?_
        refine lv_isub hx hb dX6_fixedBy_71 ?_
        refine lv_iload_n hx hb dX6_fixedBy_72 rfl (lv_at hl 3 rfl) ?_
        refine lv_iload_n hx hb dX6_fixedBy_73 rfl (lv_at hl 3 rfl) ?_
        refine lv_iconst (v := 1) hx hb dX6_fixedBy_74 (by decide) ?_
        refine lv_iadd hx hb dX6_fixedBy_75 ?_
        refine lv_aload_n hx hb dX6_fixedBy_76 rfl (lv_at hl 1 rfl) ?_
        refine kget C X 0 (ci := 6) rfl rfl hinX6 1 (by decide) hf7 (v := .ref (a 1)) rfl dX6_fixedBy_77 ?_
        refine lv_sipush (v := 298) hx hb dX6_fixedBy_80 (by decide) ?_
        obtain ⟨hgi, hm⟩ := gd_t hm
        refine kiald C X 1 rfl hgi dX6_fixedBy_83 ?_
        obtain ⟨r7, hcl, hm⟩ := bnd hm
        refine kVW C X (kX6_isSharp l g a p1 (p2 - 1) p2 (p2 + 1) (M_z u (298 : Int32).toNatClampNeg) u r7 hcl) (cw_X6_fixedBy_X6_isSharp_90 C) 0 (ci := 6) rfl rfl (As := [.int p1, .int (p2 - 1), .int p2, .int (p2 + 1), .int (M_z u (298 : Int32).toNatClampNeg)]) rfl hl (rest := []) rfl (Nat.le_of_ble_eq_true rfl) (st2 := [.int r7]) rfl dX6_fixedBy_84 ⟨Nat.le_of_ble_eq_true rfl, Nat.le_of_ble_eq_true rfl⟩ (fun H locs X => ?_)
        clear hcl
        obtain ⟨v8, hE, hm⟩ := bnd hm
        have K : ∀ (H : Heap) (locs : List Loc) (ls : Array Slot), ST g A s H locs (wM g a u) → lv_has ls 5 [(4, .int v5)] → W p l e rX6_fixedBy s m args below meth c H locs 0 0 (kEnd g below args s (some (.int o1)) (wM g a u) A 0 0) (F0 m 95 ls [.int v8]) := by
          intro H locs ls X hl
          clear hE
          refine lv_iload hx hb dX6_fixedBy_95 (lv_at hl 0 rfl) ?_
          obtain ⟨v9, hE, hm⟩ := bnd hm
          have K : ∀ (H : Heap) (locs : List Loc) (ls : Array Slot), ST g A s H locs (wM g a u) → lv_has ls 5 [] → W p l e rX6_fixedBy s m args below meth c H locs 0 0 (kEnd g below args s (some (.int o1)) (wM g a u) A 0 0) (F0 m 105 ls [.int v9, .int v8]) := by
            intro H locs ls X hl
            clear hE
            refine lv_iadd hx hb dX6_fixedBy_105 ?_
            cases sm hm
            exact kiret C X dX6_fixedBy_106
          clear hm
          have hm := hE
          clear hE
          refine lv_if_eq (tgt := 104) hx hb dX6_fixedBy_97 (by decide) (fun hc => ?_) (fun hc => ?_)
          · have hm := ifp hc hm
            refine lv_iconst (v := 0) hx hb dX6_fixedBy_104 (by decide) ?_
            cases sm hm
            exact K _ _ _ X (lv_sub hl [] rfl)
          · have hm := ifn hc hm
            refine lv_iconst (v := 4) hx hb dX6_fixedBy_100 (by decide) ?_
            refine lv_goto (tgt := 105) hx hb dX6_fixedBy_101 (by decide) ?_
            cases sm hm
            exact K _ _ _ X (lv_sub hl [] rfl)
        clear hm
        have hm := hE
        clear hE
        refine lv_if_eq (tgt := 94) hx hb dX6_fixedBy_87 (by decide) (fun hc => ?_) (fun hc => ?_)
        · have hm := ifp hc hm
          refine lv_iconst (v := 0) hx hb dX6_fixedBy_94 (by decide) ?_
          cases sm hm
          exact K _ _ _ X (lv_sub hl [0] rfl)
        · have hm := ifn hc hm
          refine lv_iconst (v := 2) hx hb dX6_fixedBy_90 (by decide) ?_
          refine lv_goto (tgt := 95) hx hb dX6_fixedBy_91 (by decide) ?_
          cases sm hm
          exact K _ _ _ X (lv_sub hl [0] rfl)
      clear hm
      have hm := hE
      clear hE
      refine lv_icmp_gt (tgt := 64) hx hb dX6_fixedBy_44 (by decide) (fun hc => ?_) (fun hc => ?_)
      · have hm := ifp hc hm
        refine lv_iconst (v := 0) hx hb dX6_fixedBy_64 (by decide) ?_
        cases sm hm
        exact K _ _ _ X (lv_sub hl [1, 2, 3] rfl)
      · have hm := ifn hc hm
        refine lv_iload_n hx hb dX6_fixedBy_47 rfl (lv_at hl 0 rfl) ?_
        refine lv_aload_n hx hb dX6_fixedBy_48 rfl (lv_at hl 1 rfl) ?_
        refine lv_iload_n hx hb dX6_fixedBy_49 rfl (lv_at hl 2 rfl) ?_
        refine lv_iload_n hx hb dX6_fixedBy_50 rfl (lv_at hl 3 rfl) ?_
        refine lv_iconst (v := 1) hx hb dX6_fixedBy_51 (by decide) ?_
        refine lv_iadd hx hb dX6_fixedBy_52 ?_
        refine lv_iconst (v := 2) hx hb dX6_fixedBy_53 (by decide) ?_
        obtain ⟨r6, hcl, hm⟩ := bnd hm
        refine kVW C X (kX6_of l g a p1 (p2 + 1) 2 u r6 hcl) (cw_X6_fixedBy_X6_of_65 C) 0 (ci := 6) rfl rfl (As := [.int p1, .int (p2 + 1), .int 2]) rfl hl (rest := [.int (r2 + (M_z u (299 : Int32).toNatClampNeg))]) rfl (Nat.le_of_ble_eq_true rfl) (st2 := [.int r6, .int (r2 + (M_z u (299 : Int32).toNatClampNeg))]) rfl dX6_fixedBy_54 ⟨Nat.le_of_ble_eq_true rfl, Nat.le_of_ble_eq_true rfl⟩ (fun H locs X => ?_)
        clear hcl
        refine lv_icmp_gt (tgt := 64) hx hb dX6_fixedBy_57 (by decide) (fun hc => ?_) (fun hc => ?_)
        · have hm := ifp hc hm
          refine lv_iconst (v := 0) hx hb dX6_fixedBy_64 (by decide) ?_
          cases sm hm
          exact K _ _ _ X (lv_sub hl [1, 2, 3] rfl)
        · have hm := ifn hc hm
          refine lv_iconst (v := 1) hx hb dX6_fixedBy_60 (by decide) ?_
          refine lv_goto (tgt := 65) hx hb dX6_fixedBy_61 (by decide) ?_
          cases sm hm
          exact K _ _ _ X (lv_sub hl [1, 2, 3] rfl)
    · have hm := ifp hc hm
      refine lv_iconst (v := 1) hx hb dX6_fixedBy_15 (by decide) ?_
      cases sm hm
      exact kiret C X dX6_fixedBy_16
-- X6 BrushStrokesModel.fixedSet(I)I
abbrev rX6_fixedSet : Room := { frames := 3, cells := 0, slots := 0, locals := 84 }
theorem cw_X6_fixedSet_X6_fixedBy_94 {p : Program} {s : State} {m : MethodId} {args : Array Value} {meth : Method} {c : Code} {g : kG} {A : Nat → Prop} (C : CT g p s m args meth c RX6 cX6_fixedSet 4 (some .int) wsX6_fixedSet A) : CallW rX6_fixedSet s args RX6 RX6 94 yX6_fixedBy cX6_fixedBy 5 (some .int) wsX6_fixedBy rX6_fixedBy 0 0 2 := cwV 2 C.2.2.2.2.2.1 gX6_fixedSet_X6_fixedBy rfl rfl rfl (by decide +kernel) ⟨Nat.le_of_ble_eq_true rfl, Nat.le_of_ble_eq_true rfl⟩
theorem cw_X6_fixedSet_X6_points_47 {p : Program} {s : State} {m : MethodId} {args : Array Value} {meth : Method} {c : Code} {g : kG} {A : Nat → Prop} (C : CT g p s m args meth c RX6 cX6_fixedSet 4 (some .int) wsX6_fixedSet A) : CallW rX6_fixedSet s args RX6 RX6 47 yX6_points cX6_points 2 (some .int) wsX6_points rX6_points 0 0 1 := cwV 1 C.2.2.2.2.2.1 gX6_fixedSet_X6_points rfl rfl rfl (by decide +kernel) ⟨Nat.le_of_ble_eq_true rfl, Nat.le_of_ble_eq_true rfl⟩
noncomputable def bX6_fixedSet_4 (c1 : Int32) (w4 : MS) : Int32 × Int32 → Option ((Int32 × Int32) ⊕ (Int32))
  | (x2, x3) => (fX6_points c1 w4).bind fun r6 => if r6 ≤ x3 then (some (.inr x2)) else ((fX6_fixedBy c1 x3 w4).bind fun r7 => ((if r7 ≤ 0 then (some 0) else (some (1 <<< (x3 &&& 31)))) : Option (Int32)).bind fun v8 => some (.inl (x2 ||| v8, x3 + 1)))
noncomputable def lX6_fixedSet_4 (c1 : Int32) (w4 : MS) (x2 : Int32) (x3 : Int32) : Option (Int32) := lp (bX6_fixedSet_4 c1 w4) (x2, x3)
theorem lX6_fixedSet_4_eq (c1 : Int32) (w4 : MS) (x2 : Int32) (x3 : Int32) : lX6_fixedSet_4 c1 w4 x2 x3 = ((fX6_points c1 w4).bind fun r6 => if r6 ≤ x3 then (some (.inr x2)) else ((fX6_fixedBy c1 x3 w4).bind fun r7 => ((if r7 ≤ 0 then (some 0) else (some (1 <<< (x3 &&& 31)))) : Option (Int32)).bind fun v8 => some (.inl (x2 ||| v8, x3 + 1)))).bind fun r => Sum.elim (fun z => lX6_fixedSet_4 c1 w4 z.1 z.2) (fun r => some r) r := lp_eq (bX6_fixedSet_4 c1 w4) (x2, x3)
set_option maxRecDepth 100000 in
set_option maxHeartbeats 4000000 in
theorem tX6_fixedSet_4 {p : Program} {l : Launch} {e : Env} {s : State} {m : MethodId} {args : Array Value} {below : List Frame} {meth : Method} {c : Code} {g : kG} {A : Nat → Prop} {Q : State → Prop} (a : Nat → Nat) (C : CT g p s m args meth c RX6 cX6_fixedSet 4 (some .int) wsX6_fixedSet A) (c1 : Int32) (w4 : MS) (y5 : Int32) (kk : ∀ (H : Heap) (locs : List Loc) (ls : Array Slot), ST g A s H locs (wM g a w4) → lv_has ls 4 [(2, .int y5)] → W p l e rX6_fixedSet s m args below meth c H locs 0 0 Q (F0 m 38 ls [])) : ∀ (n : Nat) (x2 : Int32) (x3 : Int32), whl (bX6_fixedSet_4 c1 w4) n (x2, x3) = some y5 → ∀ (H : Heap) (locs : List Loc) (ls : Array Slot), ST g A s H locs (wM g a w4) → lv_has ls 4 [(0, .ref (a 0)), (1, .int c1), (2, .int x2), (3, .int x3)] → W p l e rX6_fixedSet s m args below meth c H locs 0 0 Q (F0 m 4 ls []) := by
  have hx := C.1
  have hb := C.2.1
  intro n
  induction n with
  | zero =>
    intro x2 x3 hm
    cases hm
  | succ n ih =>
    intro x2 x3 hm H locs ls X hl
    rw [whl] at hm
    obtain ⟨q, hq, hm2⟩ := bnd hm
    clear hm
    have hm := hq
    clear hq
    rw [bX6_fixedSet_4] at hm
    refine lv_iload_n hx hb dX6_fixedSet_4 rfl (lv_at hl 3 rfl) ?_
    refine lv_aload_n hx hb dX6_fixedSet_5 rfl (lv_at hl 0 rfl) ?_
    refine lv_iload_n hx hb dX6_fixedSet_6 rfl (lv_at hl 1 rfl) ?_
    obtain ⟨r6, hcl, hm⟩ := bnd hm
    refine kVW C X (kX6_points l g a c1 w4 r6 hcl) (cw_X6_fixedSet_X6_points_47 C) 0 (ci := 6) rfl rfl (As := [.int c1]) rfl hl (rest := [.int x3]) rfl (Nat.le_of_ble_eq_true rfl) (st2 := [.int r6, .int x3]) rfl dX6_fixedSet_7 ⟨Nat.le_of_ble_eq_true rfl, Nat.le_of_ble_eq_true rfl⟩ (fun H locs X => ?_)
    clear hcl
    refine lv_icmp_ge (tgt := 38) hx hb dX6_fixedSet_10 (by decide) (fun hc => ?_) (fun hc => ?_)
    · have hm := ifp hc hm
      cases sm hm
      cases sm hm2
      exact kk _ _ _ X (lv_sub hl [2] rfl)
    · have hm := ifn hc hm
      refine lv_iload_n hx hb dX6_fixedSet_13 rfl (lv_at hl 2 rfl) ?_
      refine lv_aload_n hx hb dX6_fixedSet_14 rfl (lv_at hl 0 rfl) ?_
      refine lv_iload_n hx hb dX6_fixedSet_15 rfl (lv_at hl 1 rfl) ?_
      refine lv_iload_n hx hb dX6_fixedSet_16 rfl (lv_at hl 3 rfl) ?_
      obtain ⟨r7, hcl, hm⟩ := bnd hm
      refine kVW C X (kX6_fixedBy l g a c1 x3 w4 r7 hcl) (cw_X6_fixedSet_X6_fixedBy_94 C) 0 (ci := 6) rfl rfl (As := [.int c1, .int x3]) rfl hl (rest := [.int x2]) rfl (Nat.le_of_ble_eq_true rfl) (st2 := [.int r7, .int x2]) rfl dX6_fixedSet_17 ⟨Nat.le_of_ble_eq_true rfl, Nat.le_of_ble_eq_true rfl⟩ (fun H locs X => ?_)
      clear hcl
      obtain ⟨v8, hE, hm⟩ := bnd hm
      have K : ∀ (H : Heap) (locs : List Loc) (ls : Array Slot), ST g A s H locs (wM g a w4) → lv_has ls 4 [(0, .ref (a 0)), (1, .int c1), (3, .int x3)] → W p l e rX6_fixedSet s m args below meth c H locs 0 0 Q (F0 m 30 ls [.int v8, .int x2]) := by
        intro H locs ls X hl
        clear hE
        refine lv_ior hx hb dX6_fixedSet_30 ?_
        refine lv_istore_n (lv' := [(2, .int (x2 ||| v8)), (0, .ref (a 0)), (1, .int c1), (3, .int x3)]) hx hb dX6_fixedSet_31 rfl hl (by decide) rfl (fun ls hl => ?_)
        refine lv_iinc (v := x3 + 1) (lv' := [(3, .int (x3 + 1)), (2, .int (x2 ||| v8)), (0, .ref (a 0)), (1, .int c1)]) hx hb dX6_fixedSet_32 hl (k := 3) rfl rfl (by decide) rfl (fun ls hl => ?_)
        refine lv_goto (tgt := 4) hx hb dX6_fixedSet_35 (by decide) ?_
        cases sm hm
        exact ih _ _ hm2 _ _ _ X (lv_sub hl [2, 3, 1, 0] rfl)
      clear hm
      have hm := hE
      clear hE
      refine lv_if_le (tgt := 29) hx hb dX6_fixedSet_20 (by decide) (fun hc => ?_) (fun hc => ?_)
      · have hm := ifp hc hm
        refine lv_iconst (v := 0) hx hb dX6_fixedSet_29 (by decide) ?_
        cases sm hm
        exact K _ _ _ X (lv_sub hl [0, 1, 3] rfl)
      · have hm := ifn hc hm
        refine lv_iconst (v := 1) hx hb dX6_fixedSet_23 (by decide) ?_
        refine lv_iload_n hx hb dX6_fixedSet_24 rfl (lv_at hl 3 rfl) ?_
        refine lv_ishl hx hb dX6_fixedSet_25 ?_
        refine lv_goto (tgt := 30) hx hb dX6_fixedSet_26 (by decide) ?_
        cases sm hm
        exact K _ _ _ X (lv_sub hl [0, 1, 3] rfl)
noncomputable def fX6_fixedSet (p1 : Int32) (u : MS) : Option (Int32) := (lX6_fixedSet_4 p1 u 0 0).bind fun y9 => some y9
set_option maxRecDepth 100000 in
set_option maxHeartbeats 4000000 in
theorem kX6_fixedSet (l : Launch) (g : kG) (a : Nat → Nat) (p1 : Int32) (u : MS) (o1 : Int32) (hm : fX6_fixedSet p1 u = some o1) : KM l yX6_fixedSet wsX6_fixedSet rX6_fixedSet g [.ref (a 0), .int p1] (wM g a u) (some (.int o1)) (wM g a u) 0 0 := by
  refine KM.of (nL := 4) (by decide) rfl (Nat.le_of_ble_eq_true rfl) ?_
  intro p e s m args below meth c A ls C X hl
  have C : CT g p s m args meth c RX6 cX6_fixedSet 4 (some .int) wsX6_fixedSet A := C
  have hx := C.1
  have hb := C.2.1
  have hl : lv_has ls 4 [(0, .ref (a 0)), (1, .int p1)] := hl
  rw [fX6_fixedSet] at hm
  refine lv_iconst (v := 0) hx hb dX6_fixedSet_0 (by decide) ?_
  refine lv_istore_n (lv' := [(2, .int 0), (0, .ref (a 0)), (1, .int p1)]) hx hb dX6_fixedSet_1 rfl hl (by decide) rfl (fun ls hl => ?_)
  refine lv_iconst (v := 0) hx hb dX6_fixedSet_2 (by decide) ?_
  refine lv_istore_n (lv' := [(3, .int 0), (2, .int 0), (0, .ref (a 0)), (1, .int p1)]) hx hb dX6_fixedSet_3 rfl hl (by decide) rfl (fun ls hl => ?_)
  obtain ⟨y9, hL, hm⟩ := bnd hm
  obtain ⟨nn, hn⟩ := lp_run hL
  refine tX6_fixedSet_4 a C p1 u y9 (fun H locs ls X hl => ?_) nn _ _ hn _ _ _ X (lv_sub hl [2, 3, 1, 0] rfl)
  clear hL hn
  refine lv_iload_n hx hb dX6_fixedSet_38 rfl (lv_at hl 0 rfl) ?_
  cases sm hm
  exact kiret C X dX6_fixedSet_39
-- X6 BrushStrokesModel.farthest(IIII)I
abbrev rX6_farthest : Room := { frames := 3, cells := 0, slots := 0, locals := 86 }
theorem fl_X6_farthest_69 : (Cond.fieldLink RX6 69 "BrushStrokesModel" "below" "J") ∈ wsX6_farthest := by decide +kernel
theorem fl_X6_farthest_73 : (Cond.fieldLink RX6 73 "BrushStrokesModel" "above" "J") ∈ wsX6_farthest := by decide +kernel
theorem in_X6_farthest_X6 : ∀ w ∈ u_ws RX6 TX6 16, w ∈ wsX6_farthest := by decide +kernel
theorem cw_X6_farthest_X6_findDistance_80 {p : Program} {s : State} {m : MethodId} {args : Array Value} {meth : Method} {c : Code} {g : kG} {A : Nat → Prop} (C : CT g p s m args meth c RX6 cX6_farthest 11 (some .int) wsX6_farthest A) : CallW rX6_farthest s args RX6 RX6 80 yX6_findDistance cX6_findDistance 17 none wsX6_findDistance rX6_findDistance 0 0 4 := cwV 4 C.2.2.2.2.2.1 gX6_farthest_X6_findDistance rfl rfl rfl (by decide +kernel) ⟨Nat.le_of_ble_eq_true rfl, Nat.le_of_ble_eq_true rfl⟩
noncomputable def bX6_farthest_20 (c1 : Int32) (c2 : Int32) (c3 : Int32) : Int32 × Int64 × Int64 × Int32 × MS → Option ((Int32 × Int64 × Int64 × Int32 × MS) ⊕ (Int32 × MS))
  | (x4, x5, x6, x7, u8) => if c3 ≤ x7 then (some (.inr (x4, u8))) else ((fX6_findDistance c1 x7 c2 c3 u8).bind fun u11 => ((if ((M_above u11) * x6) ≤ (x5 * (M_below u11)) then (some (x4, x5, x6)) else (some (x7, M_above u11, M_below u11))) : Option (Int32 × Int64 × Int64)).bind fun (v12, v13, v14) => some (.inl (v12, v13, v14, x7 + 1, u11)))
noncomputable def lX6_farthest_20 (c1 : Int32) (c2 : Int32) (c3 : Int32) (x4 : Int32) (x5 : Int64) (x6 : Int64) (x7 : Int32) (u8 : MS) : Option (Int32 × MS) := lp (bX6_farthest_20 c1 c2 c3) (x4, x5, x6, x7, u8)
theorem lX6_farthest_20_eq (c1 : Int32) (c2 : Int32) (c3 : Int32) (x4 : Int32) (x5 : Int64) (x6 : Int64) (x7 : Int32) (u8 : MS) : lX6_farthest_20 c1 c2 c3 x4 x5 x6 x7 u8 = (if c3 ≤ x7 then (some (.inr (x4, u8))) else ((fX6_findDistance c1 x7 c2 c3 u8).bind fun u11 => ((if ((M_above u11) * x6) ≤ (x5 * (M_below u11)) then (some (x4, x5, x6)) else (some (x7, M_above u11, M_below u11))) : Option (Int32 × Int64 × Int64)).bind fun (v12, v13, v14) => some (.inl (v12, v13, v14, x7 + 1, u11)))).bind fun r => Sum.elim (fun z => lX6_farthest_20 c1 c2 c3 z.1 z.2.1 z.2.2.1 z.2.2.2.1 z.2.2.2.2) (fun r => some r) r := lp_eq (bX6_farthest_20 c1 c2 c3) (x4, x5, x6, x7, u8)
set_option maxRecDepth 100000 in
set_option maxHeartbeats 4000000 in
theorem tX6_farthest_20 {p : Program} {l : Launch} {e : Env} {s : State} {m : MethodId} {args : Array Value} {below : List Frame} {meth : Method} {c : Code} {g : kG} {A : Nat → Prop} {Q : State → Prop} (a : Nat → Nat) (C : CT g p s m args meth c RX6 cX6_farthest 11 (some .int) wsX6_farthest A) (c1 : Int32) (c2 : Int32) (c3 : Int32) (y9 : Int32) (u10 : MS) (kk : ∀ (H : Heap) (locs : List Loc) (ls : Array Slot), ST g A s H locs (wM g a u10) → lv_has ls 11 [(5, .int y9)] → W p l e rX6_farthest s m args below meth c H locs 0 0 Q (F0 m 75 ls [])) : ∀ (n : Nat) (x4 : Int32) (x5 : Int64) (x6 : Int64) (x7 : Int32) (u8 : MS), whl (bX6_farthest_20 c1 c2 c3) n (x4, x5, x6, x7, u8) = some (y9, u10) → ∀ (H : Heap) (locs : List Loc) (ls : Array Slot), ST g A s H locs (wM g a u8) → lv_has ls 11 [(0, .ref (a 0)), (1, .int c1), (2, .int c2), (3, .int c3), (5, .int x4), (6, .long x5), (8, .long x6), (10, .int x7)] → W p l e rX6_farthest s m args below meth c H locs 0 0 Q (F0 m 20 ls []) := by
  have hx := C.1
  have hb := C.2.1
  have hinX6 := in_X6_farthest_X6
  have hf69 := C.2.2.2.2.2.1 _ fl_X6_farthest_69
  have hf73 := C.2.2.2.2.2.1 _ fl_X6_farthest_73
  intro n
  induction n with
  | zero =>
    intro x4 x5 x6 x7 u8 hm
    cases hm
  | succ n ih =>
    intro x4 x5 x6 x7 u8 hm H locs ls X hl
    rw [whl] at hm
    obtain ⟨q, hq, hm2⟩ := bnd hm
    clear hm
    have hm := hq
    clear hq
    rw [bX6_farthest_20] at hm
    refine lv_iload hx hb dX6_farthest_20 (lv_at hl 7 rfl) ?_
    refine lv_iload_n hx hb dX6_farthest_22 rfl (lv_at hl 3 rfl) ?_
    refine lv_icmp_ge (tgt := 75) hx hb dX6_farthest_23 (by decide) (fun hc => ?_) (fun hc => ?_)
    · have hm := ifp hc hm
      cases sm hm
      cases sm hm2
      exact kk _ _ _ X (lv_sub hl [4] rfl)
    · have hm := ifn hc hm
      refine lv_aload_n hx hb dX6_farthest_26 rfl (lv_at hl 0 rfl) ?_
      refine lv_iload_n hx hb dX6_farthest_27 rfl (lv_at hl 1 rfl) ?_
      refine lv_iload hx hb dX6_farthest_28 (lv_at hl 7 rfl) ?_
      refine lv_iload_n hx hb dX6_farthest_30 rfl (lv_at hl 2 rfl) ?_
      refine lv_iload_n hx hb dX6_farthest_31 rfl (lv_at hl 3 rfl) ?_
      obtain ⟨u11, hcl, hm⟩ := bnd hm
      refine kVW C X (kX6_findDistance l g a c1 x7 c2 c3 u8 u11 hcl) (cw_X6_farthest_X6_findDistance_80 C) 0 (ci := 6) rfl rfl (As := [.int c1, .int x7, .int c2, .int c3]) rfl hl (rest := []) rfl (Nat.le_of_ble_eq_true rfl) (st2 := []) rfl dX6_farthest_32 ⟨Nat.le_of_ble_eq_true rfl, Nat.le_of_ble_eq_true rfl⟩ (fun H locs X => ?_)
      clear hcl
      refine lv_aload_n hx hb dX6_farthest_35 rfl (lv_at hl 0 rfl) ?_
      refine kget C X 0 (ci := 6) rfl rfl hinX6 8 (by decide) hf73 (v := .long (M_above u11)) rfl dX6_farthest_36 ?_
      refine lv_lload hx hb dX6_farthest_39 (lv_at hl 6 rfl) ?_
      refine lv_lmul hx hb dX6_farthest_41 ?_
      refine lv_lload hx hb dX6_farthest_42 (lv_at hl 5 rfl) ?_
      refine lv_aload_n hx hb dX6_farthest_44 rfl (lv_at hl 0 rfl) ?_
      refine kget C X 0 (ci := 6) rfl rfl hinX6 9 (by decide) hf69 (v := .long (M_below u11)) rfl dX6_farthest_45 ?_
      refine lv_lmul hx hb dX6_farthest_48 ?_
      obtain ⟨⟨v12, v13, v14⟩, hE, hm⟩ := bnd hm
      have K : ∀ (H : Heap) (locs : List Loc) (ls : Array Slot), ST g A s H locs (wM g a u11) → lv_has ls 11 [(0, .ref (a 0)), (1, .int c1), (2, .int c2), (3, .int c3), (5, .int v12), (6, .long v13), (8, .long v14), (10, .int x7)] → W p l e rX6_farthest s m args below meth c H locs 0 0 Q (F0 m 69 ls []) := by
        intro H locs ls X hl
        clear hE
        refine lv_iinc (v := x7 + 1) (lv' := [(10, .int (x7 + 1)), (0, .ref (a 0)), (1, .int c1), (2, .int c2), (3, .int c3), (5, .int v12), (6, .long v13), (8, .long v14)]) hx hb dX6_farthest_69 hl (k := 7) rfl rfl (by decide) rfl (fun ls hl => ?_)
        refine lv_goto (tgt := 20) hx hb dX6_farthest_72 (by decide) ?_
        cases sm hm
        exact ih _ _ _ _ _ hm2 _ _ _ X (lv_sub hl [1, 2, 3, 4, 5, 6, 7, 0] rfl)
      clear hm
      have hm := hE
      clear hE
      refine klcmp_le (tgt := 69) hx hb dX6_farthest_49 dX6_farthest_50 (by decide) (fun hc => ?_) (fun hc => ?_)
      · have hm := ifp hc hm
        cases sm hm
        exact K _ _ _ X (lv_sub hl [0, 1, 2, 3, 4, 5, 6, 7] rfl)
      · have hm := ifn hc hm
        refine lv_iload hx hb dX6_farthest_53 (lv_at hl 7 rfl) ?_
        refine lv_istore (lv' := [(5, .int x7), (0, .ref (a 0)), (1, .int c1), (2, .int c2), (3, .int c3), (6, .long x5), (8, .long x6), (10, .int x7)]) hx hb dX6_farthest_55 hl (by decide) rfl (fun ls hl => ?_)
        refine lv_aload_n hx hb dX6_farthest_57 rfl (lv_at hl 1 rfl) ?_
        refine kget C X 0 (ci := 6) rfl rfl hinX6 8 (by decide) hf73 (v := .long (M_above u11)) rfl dX6_farthest_58 ?_
        refine lv_lstore (lv' := [(6, .long (M_above u11)), (5, .int x7), (0, .ref (a 0)), (1, .int c1), (2, .int c2), (3, .int c3), (8, .long x6), (10, .int x7)]) hx hb dX6_farthest_61 hl (by decide) rfl (fun ls hl => ?_)
        refine lv_aload_n hx hb dX6_farthest_63 rfl (lv_at hl 2 rfl) ?_
        refine kget C X 0 (ci := 6) rfl rfl hinX6 9 (by decide) hf69 (v := .long (M_below u11)) rfl dX6_farthest_64 ?_
        refine lv_lstore (lv' := [(8, .long (M_below u11)), (6, .long (M_above u11)), (5, .int x7), (0, .ref (a 0)), (1, .int c1), (2, .int c2), (3, .int c3), (10, .int x7)]) hx hb dX6_farthest_67 hl (by decide) rfl (fun ls hl => ?_)
        cases sm hm
        exact K _ _ _ X (lv_sub hl [3, 4, 5, 6, 2, 1, 0, 7] rfl)
noncomputable def fX6_farthest (p1 : Int32) (p2 : Int32) (p3 : Int32) (p4 : Int32) (u : MS) : Option (Int32 × MS) := (lX6_farthest_20 p1 p2 p3 (-1) (p4.toInt64 * p4.toInt64) 1 (p2 + 1) u).bind fun (y15, u16) => some (y15, u16)
set_option maxRecDepth 100000 in
set_option maxHeartbeats 4000000 in
theorem kX6_farthest (l : Launch) (g : kG) (a : Nat → Nat) (p1 : Int32) (p2 : Int32) (p3 : Int32) (p4 : Int32) (u : MS) (o1 : Int32) (o2 : MS) (hm : fX6_farthest p1 p2 p3 p4 u = some (o1, o2)) : KM l yX6_farthest wsX6_farthest rX6_farthest g [.ref (a 0), .int p1, .int p2, .int p3, .int p4] (wM g a u) (some (.int o1)) (wM g a o2) 0 0 := by
  refine KM.of (nL := 11) (by decide) rfl (Nat.le_of_ble_eq_true rfl) ?_
  intro p e s m args below meth c A ls C X hl
  have C : CT g p s m args meth c RX6 cX6_farthest 11 (some .int) wsX6_farthest A := C
  have hx := C.1
  have hb := C.2.1
  have hl : lv_has ls 11 [(0, .ref (a 0)), (1, .int p1), (2, .int p2), (3, .int p3), (4, .int p4)] := hl
  rw [fX6_farthest] at hm
  refine lv_iconst (v := (-1)) hx hb dX6_farthest_0 (by decide) ?_
  refine lv_istore (lv' := [(5, .int (-1)), (0, .ref (a 0)), (1, .int p1), (2, .int p2), (3, .int p3), (4, .int p4)]) hx hb dX6_farthest_1 hl (by decide) rfl (fun ls hl => ?_)
  refine lv_iload hx hb dX6_farthest_3 (lv_at hl 5 rfl) ?_
  refine lv_i2l (v := p4.toInt64) hx hb dX6_farthest_5 rfl ?_
  refine lv_iload hx hb dX6_farthest_6 (lv_at hl 5 rfl) ?_
  refine lv_i2l (v := p4.toInt64) hx hb dX6_farthest_8 rfl ?_
  refine lv_lmul hx hb dX6_farthest_9 ?_
  refine lv_lstore (lv' := [(6, .long (p4.toInt64 * p4.toInt64)), (5, .int (-1)), (0, .ref (a 0)), (1, .int p1), (2, .int p2), (3, .int p3), (4, .int p4)]) hx hb dX6_farthest_10 hl (by decide) rfl (fun ls hl => ?_)
  refine lv_lconst (v := 1) hx hb dX6_farthest_12 (by decide) ?_
  refine lv_lstore (lv' := [(8, .long 1), (6, .long (p4.toInt64 * p4.toInt64)), (5, .int (-1)), (0, .ref (a 0)), (1, .int p1), (2, .int p2), (3, .int p3), (4, .int p4)]) hx hb dX6_farthest_13 hl (by decide) rfl (fun ls hl => ?_)
  refine lv_iload_n hx hb dX6_farthest_15 rfl (lv_at hl 5 rfl) ?_
  refine lv_iconst (v := 1) hx hb dX6_farthest_16 (by decide) ?_
  refine lv_iadd hx hb dX6_farthest_17 ?_
  refine lv_istore (lv' := [(10, .int (p2 + 1)), (8, .long 1), (6, .long (p4.toInt64 * p4.toInt64)), (5, .int (-1)), (0, .ref (a 0)), (1, .int p1), (2, .int p2), (3, .int p3), (4, .int p4)]) hx hb dX6_farthest_18 hl (by decide) rfl (fun ls hl => ?_)
  obtain ⟨⟨y15, u16⟩, hL, hm⟩ := bnd hm
  obtain ⟨nn, hn⟩ := lp_run hL
  refine tX6_farthest_20 a C p1 p2 p3 y15 u16 (fun H locs ls X hl => ?_) nn _ _ _ _ _ hn _ _ _ X (lv_sub hl [4, 5, 6, 7, 3, 2, 1, 0] rfl)
  clear hL hn
  refine lv_iload hx hb dX6_farthest_75 (lv_at hl 0 rfl) ?_
  cases sm hm
  exact kiret C X dX6_farthest_77
-- X6 BrushStrokesModel.split(II)I
abbrev rX6_split : Room := { frames := 4, cells := 0, slots := 0, locals := 116 }
theorem cw_X6_split_X6_points_47 {p : Program} {s : State} {m : MethodId} {args : Array Value} {meth : Method} {c : Code} {g : kG} {A : Nat → Prop} (C : CT g p s m args meth c RX6 cX6_split 7 (some .int) wsX6_split A) : CallW rX6_split s args RX6 RX6 47 yX6_points cX6_points 2 (some .int) wsX6_points rX6_points 0 0 1 := cwV 1 C.2.2.2.2.2.1 gX6_split_X6_points rfl rfl rfl (by decide +kernel) ⟨Nat.le_of_ble_eq_true rfl, Nat.le_of_ble_eq_true rfl⟩
theorem cw_X6_split_X6_fixedSet_98 {p : Program} {s : State} {m : MethodId} {args : Array Value} {meth : Method} {c : Code} {g : kG} {A : Nat → Prop} (C : CT g p s m args meth c RX6 cX6_split 7 (some .int) wsX6_split A) : CallW rX6_split s args RX6 RX6 98 yX6_fixedSet cX6_fixedSet 4 (some .int) wsX6_fixedSet rX6_fixedSet 0 0 1 := cwV 1 C.2.2.2.2.2.1 gX6_split_X6_fixedSet rfl rfl rfl (by decide +kernel) ⟨Nat.le_of_ble_eq_true rfl, Nat.le_of_ble_eq_true rfl⟩
theorem cw_X6_split_X6_behind_101 {p : Program} {s : State} {m : MethodId} {args : Array Value} {meth : Method} {c : Code} {g : kG} {A : Nat → Prop} (C : CT g p s m args meth c RX6 cX6_split 7 (some .int) wsX6_split A) : CallB rX6_split s args RX6 101 yX6_behind cX6_behind 3 (some .int) wsX6_behind rX6_behind 0 0 2 ∧ (Cond.static yX6_behind).before args s = true := cwS 2 C.2.2.2.2.2.1 gX6_split_X6_behind rfl rfl rfl (by decide +kernel) ⟨Nat.le_of_ble_eq_true rfl, Nat.le_of_ble_eq_true rfl⟩
theorem cw_X6_split_X6_farthest_104 {p : Program} {s : State} {m : MethodId} {args : Array Value} {meth : Method} {c : Code} {g : kG} {A : Nat → Prop} (C : CT g p s m args meth c RX6 cX6_split 7 (some .int) wsX6_split A) : CallW rX6_split s args RX6 RX6 104 yX6_farthest cX6_farthest 11 (some .int) wsX6_farthest rX6_farthest 0 0 4 := cwV 4 C.2.2.2.2.2.1 gX6_split_X6_farthest rfl rfl rfl (by decide +kernel) ⟨Nat.le_of_ble_eq_true rfl, Nat.le_of_ble_eq_true rfl⟩
noncomputable def bX6_split_9 (c2 : Int32) (c3 : Int32) : Int32 × Int32 × MS → Option ((Int32 × Int32 × MS) ⊕ (Int32 × MS))
  | (x4, x5, u6) => (fX6_points c2 u6).bind fun r9 => if (r9 - 1) ≤ x5 then (some (.inr (x4, u6))) else ((fX6_behind x4 x5).bind fun r10 => (fX6_farthest c2 x5 r10 c3 u6).bind fun (r11, u12) => ((if 0 ≤ r11 then (some (x4 ||| (1 <<< (r11 &&& 31)), x5)) else (some (x4, r10))) : Option (Int32 × Int32)).bind fun (v13, v14) => some (.inl (v13, v14, u12)))
noncomputable def lX6_split_9 (c2 : Int32) (c3 : Int32) (x4 : Int32) (x5 : Int32) (u6 : MS) : Option (Int32 × MS) := lp (bX6_split_9 c2 c3) (x4, x5, u6)
theorem lX6_split_9_eq (c2 : Int32) (c3 : Int32) (x4 : Int32) (x5 : Int32) (u6 : MS) : lX6_split_9 c2 c3 x4 x5 u6 = ((fX6_points c2 u6).bind fun r9 => if (r9 - 1) ≤ x5 then (some (.inr (x4, u6))) else ((fX6_behind x4 x5).bind fun r10 => (fX6_farthest c2 x5 r10 c3 u6).bind fun (r11, u12) => ((if 0 ≤ r11 then (some (x4 ||| (1 <<< (r11 &&& 31)), x5)) else (some (x4, r10))) : Option (Int32 × Int32)).bind fun (v13, v14) => some (.inl (v13, v14, u12)))).bind fun r => Sum.elim (fun z => lX6_split_9 c2 c3 z.1 z.2.1 z.2.2) (fun r => some r) r := lp_eq (bX6_split_9 c2 c3) (x4, x5, u6)
set_option maxRecDepth 100000 in
set_option maxHeartbeats 4000000 in
theorem tX6_split_9 {p : Program} {l : Launch} {e : Env} {s : State} {m : MethodId} {args : Array Value} {below : List Frame} {meth : Method} {c : Code} {g : kG} {A : Nat → Prop} {Q : State → Prop} (a : Nat → Nat) (C : CT g p s m args meth c RX6 cX6_split 7 (some .int) wsX6_split A) (c2 : Int32) (c3 : Int32) (y7 : Int32) (u8 : MS) (kk : ∀ (H : Heap) (locs : List Loc) (ls : Array Slot), ST g A s H locs (wM g a u8) → lv_has ls 7 [(3, .int y7)] → W p l e rX6_split s m args below meth c H locs 0 0 Q (F0 m 63 ls [])) : ∀ (n : Nat) (x4 : Int32) (x5 : Int32) (u6 : MS), whl (bX6_split_9 c2 c3) n (x4, x5, u6) = some (y7, u8) → ∀ (H : Heap) (locs : List Loc) (ls : Array Slot), ST g A s H locs (wM g a u6) → lv_has ls 7 [(0, .ref (a 0)), (1, .int c2), (2, .int c3), (3, .int x4), (4, .int x5)] → W p l e rX6_split s m args below meth c H locs 0 0 Q (F0 m 9 ls []) := by
  have hx := C.1
  have hb := C.2.1
  intro n
  induction n with
  | zero =>
    intro x4 x5 u6 hm
    cases hm
  | succ n ih =>
    intro x4 x5 u6 hm H locs ls X hl
    rw [whl] at hm
    obtain ⟨q, hq, hm2⟩ := bnd hm
    clear hm
    have hm := hq
    clear hq
    rw [bX6_split_9] at hm
    refine lv_iload hx hb dX6_split_9 (lv_at hl 4 rfl) ?_
    refine lv_aload_n hx hb dX6_split_11 rfl (lv_at hl 0 rfl) ?_
    refine lv_iload_n hx hb dX6_split_12 rfl (lv_at hl 1 rfl) ?_
    obtain ⟨r9, hcl, hm⟩ := bnd hm
    refine kVW C X (kX6_points l g a c2 u6 r9 hcl) (cw_X6_split_X6_points_47 C) 0 (ci := 6) rfl rfl (As := [.int c2]) rfl hl (rest := [.int x5]) rfl (Nat.le_of_ble_eq_true rfl) (st2 := [.int r9, .int x5]) rfl dX6_split_13 ⟨Nat.le_of_ble_eq_true rfl, Nat.le_of_ble_eq_true rfl⟩ (fun H locs X => ?_)
    clear hcl
    refine lv_iconst (v := 1) hx hb dX6_split_16 (by decide) ?_
    refine lv_isub hx hb dX6_split_17 ?_
    refine lv_icmp_ge (tgt := 63) hx hb dX6_split_18 (by decide) (fun hc => ?_) (fun hc => ?_)
    · have hm := ifp hc hm
      cases sm hm
      cases sm hm2
      exact kk _ _ _ X (lv_sub hl [3] rfl)
    · have hm := ifn hc hm
      refine lv_iload_n hx hb dX6_split_21 rfl (lv_at hl 3 rfl) ?_
      refine lv_iload hx hb dX6_split_22 (lv_at hl 4 rfl) ?_
      obtain ⟨r10, hcl, hm⟩ := bnd hm
      refine kS0 C X (kX6_behind l g x4 x5 r10 hcl) (cw_X6_split_X6_behind_101 C) (As := [.int x4, .int x5]) rfl hl (rest := []) rfl (Nat.le_of_ble_eq_true rfl) (st2 := [.int r10]) rfl dX6_split_24 ⟨Nat.le_of_ble_eq_true rfl, Nat.le_of_ble_eq_true rfl⟩ (fun H locs X => ?_)
      clear hcl
      refine lv_istore (lv' := [(5, .int r10), (0, .ref (a 0)), (1, .int c2), (2, .int c3), (3, .int x4), (4, .int x5)]) hx hb dX6_split_27 hl (by decide) rfl (fun ls hl => ?_)
      refine lv_aload_n hx hb dX6_split_29 rfl (lv_at hl 1 rfl) ?_
      refine lv_iload_n hx hb dX6_split_30 rfl (lv_at hl 2 rfl) ?_
      refine lv_iload hx hb dX6_split_31 (lv_at hl 5 rfl) ?_
      refine lv_iload hx hb dX6_split_33 (lv_at hl 0 rfl) ?_
      refine lv_iload_n hx hb dX6_split_35 rfl (lv_at hl 3 rfl) ?_
      obtain ⟨⟨r11, u12⟩, hcl, hm⟩ := bnd hm
      refine kVW C X (kX6_farthest l g a c2 x5 r10 c3 u6 r11 u12 hcl) (cw_X6_split_X6_farthest_104 C) 0 (ci := 6) rfl rfl (As := [.int c2, .int x5, .int r10, .int c3]) rfl hl (rest := []) rfl (Nat.le_of_ble_eq_true rfl) (st2 := [.int r11]) rfl dX6_split_36 ⟨Nat.le_of_ble_eq_true rfl, Nat.le_of_ble_eq_true rfl⟩ (fun H locs X => ?_)
      clear hcl
      refine lv_istore (lv' := [(6, .int r11), (5, .int r10), (0, .ref (a 0)), (1, .int c2), (2, .int c3), (3, .int x4), (4, .int x5)]) hx hb dX6_split_39 hl (by decide) rfl (fun ls hl => ?_)
      refine lv_iload hx hb dX6_split_41 (lv_at hl 0 rfl) ?_
      obtain ⟨⟨v13, v14⟩, hE, hm⟩ := bnd hm
      have K : ∀ (H : Heap) (locs : List Loc) (ls : Array Slot), ST g A s H locs (wM g a u12) → lv_has ls 7 [(0, .ref (a 0)), (1, .int c2), (2, .int c3), (3, .int v13), (4, .int v14)] → W p l e rX6_split s m args below meth c H locs 0 0 Q (F0 m 60 ls []) := by
        intro H locs ls X hl
        clear hE
        refine lv_goto (tgt := 9) hx hb dX6_split_60 (by decide) ?_
        cases sm hm
        exact ih _ _ _ hm2 _ _ _ X (lv_sub hl [0, 1, 2, 3, 4] rfl)
      clear hm
      have hm := hE
      clear hE
      refine lv_if_ge (tgt := 53) hx hb dX6_split_43 (by decide) (fun hc => ?_) (fun hc => ?_)
      · have hm := ifp hc hm
        refine lv_iload_n hx hb dX6_split_53 rfl (lv_at hl 5 rfl) ?_
        refine lv_iconst (v := 1) hx hb dX6_split_54 (by decide) ?_
        refine lv_iload hx hb dX6_split_55 (lv_at hl 0 rfl) ?_
        refine lv_ishl hx hb dX6_split_57 ?_
        refine lv_ior hx hb dX6_split_58 ?_
        refine lv_istore_n (lv' := [(3, .int (x4 ||| (1 <<< (r11 &&& 31)))), (6, .int r11), (5, .int r10), (0, .ref (a 0)), (1, .int c2), (2, .int c3), (4, .int x5)]) hx hb dX6_split_59 rfl hl (by decide) rfl (fun ls hl => ?_)
        cases sm hm
        exact K _ _ _ X (lv_sub hl [3, 4, 5, 0, 6] rfl)
      · have hm := ifn hc hm
        refine lv_iload hx hb dX6_split_46 (lv_at hl 1 rfl) ?_
        refine lv_istore (lv' := [(4, .int r10), (6, .int r11), (5, .int r10), (0, .ref (a 0)), (1, .int c2), (2, .int c3), (3, .int x4)]) hx hb dX6_split_48 hl (by decide) rfl (fun ls hl => ?_)
        refine lv_goto (tgt := 60) hx hb dX6_split_50 (by decide) ?_
        cases sm hm
        exact K _ _ _ X (lv_sub hl [3, 4, 5, 6, 0] rfl)
noncomputable def fX6_split (p1 : Int32) (p2 : Int32) (u : MS) : Option (Int32 × MS) := (fX6_fixedSet p1 u).bind fun r1 => (lX6_split_9 p1 p2 r1 0 u).bind fun (y15, u16) => some (y15, u16)
set_option maxRecDepth 100000 in
set_option maxHeartbeats 4000000 in
theorem kX6_split (l : Launch) (g : kG) (a : Nat → Nat) (p1 : Int32) (p2 : Int32) (u : MS) (o1 : Int32) (o2 : MS) (hm : fX6_split p1 p2 u = some (o1, o2)) : KM l yX6_split wsX6_split rX6_split g [.ref (a 0), .int p1, .int p2] (wM g a u) (some (.int o1)) (wM g a o2) 0 0 := by
  refine KM.of (nL := 7) (by decide) rfl (Nat.le_of_ble_eq_true rfl) ?_
  intro p e s m args below meth c A ls C X hl
  have C : CT g p s m args meth c RX6 cX6_split 7 (some .int) wsX6_split A := C
  have hx := C.1
  have hb := C.2.1
  have hl : lv_has ls 7 [(0, .ref (a 0)), (1, .int p1), (2, .int p2)] := hl
  rw [fX6_split] at hm
  refine lv_aload_n hx hb dX6_split_0 rfl (lv_at hl 0 rfl) ?_
  refine lv_iload_n hx hb dX6_split_1 rfl (lv_at hl 1 rfl) ?_
  obtain ⟨r1, hcl, hm⟩ := bnd hm
  refine kVW C X (kX6_fixedSet l g a p1 u r1 hcl) (cw_X6_split_X6_fixedSet_98 C) 0 (ci := 6) rfl rfl (As := [.int p1]) rfl hl (rest := []) rfl (Nat.le_of_ble_eq_true rfl) (st2 := [.int r1]) rfl dX6_split_2 ⟨Nat.le_of_ble_eq_true rfl, Nat.le_of_ble_eq_true rfl⟩ (fun H locs X => ?_)
  clear hcl
  refine lv_istore_n (lv' := [(3, .int r1), (0, .ref (a 0)), (1, .int p1), (2, .int p2)]) hx hb dX6_split_5 rfl hl (by decide) rfl (fun ls hl => ?_)
  refine lv_iconst (v := 0) hx hb dX6_split_6 (by decide) ?_
  refine lv_istore (lv' := [(4, .int 0), (3, .int r1), (0, .ref (a 0)), (1, .int p1), (2, .int p2)]) hx hb dX6_split_7 hl (by decide) rfl (fun ls hl => ?_)
  obtain ⟨⟨y15, u16⟩, hL, hm⟩ := bnd hm
  obtain ⟨nn, hn⟩ := lp_run hL
  refine tX6_split_9 a C p1 p2 y15 u16 (fun H locs ls X hl => ?_) nn _ _ _ hn _ _ _ X (lv_sub hl [2, 3, 4, 1, 0] rfl)
  clear hL hn
  refine lv_iload_n hx hb dX6_split_63 rfl (lv_at hl 0 rfl) ?_
  cases sm hm
  exact kiret C X dX6_split_64
-- X6 BrushStrokesModel.canSkip(IIIII)Z
abbrev rX6_canSkip : Room := { frames := 4, cells := 0, slots := 0, locals := 111 }
theorem cw_X6_canSkip_X6_has_54 {p : Program} {s : State} {m : MethodId} {args : Array Value} {meth : Method} {c : Code} {g : kG} {A : Nat → Prop} (C : CT g p s m args meth c RX6 cX6_canSkip 8 (some .boolean) wsX6_canSkip A) : CallB rX6_canSkip s args RX6 54 yX6_has cX6_has 2 (some .boolean) wsX6_has rX6_has 0 0 2 ∧ (Cond.static yX6_has).before args s = true := cwS 2 C.2.2.2.2.2.1 gX6_canSkip_X6_has rfl rfl rfl (by decide +kernel) ⟨Nat.le_of_ble_eq_true rfl, Nat.le_of_ble_eq_true rfl⟩
theorem cw_X6_canSkip_X6_isWithin_108 {p : Program} {s : State} {m : MethodId} {args : Array Value} {meth : Method} {c : Code} {g : kG} {A : Nat → Prop} (C : CT g p s m args meth c RX6 cX6_canSkip 8 (some .boolean) wsX6_canSkip A) : CallW rX6_canSkip s args RX6 RX6 108 yX6_isWithin cX6_isWithin 6 (some .boolean) wsX6_isWithin rX6_isWithin 0 0 5 := cwV 5 C.2.2.2.2.2.1 gX6_canSkip_X6_isWithin rfl rfl rfl (by decide +kernel) ⟨Nat.le_of_ble_eq_true rfl, Nat.le_of_ble_eq_true rfl⟩
noncomputable def bX6_canSkip_8 (c1 : Int32) (c2 : Int32) (c3 : Int32) (c4 : Int32) (c5 : Int32) : Int32 × Int32 × MS → Option ((Int32 × Int32 × MS) ⊕ (Int32 × MS))
  | (x6, x7, u8) => if c3 ≤ x7 then (some (.inr (x6, u8))) else (((if x6 = 0 then (some (0, u8)) else ((fX6_has c5 x7).bind fun r16 => if r16 = 0 then ((fX6_isWithin c1 x7 c2 c3 c4 u8).bind fun (r17, u18) => if r17 = 0 then (some (0, u18)) else (some (1, u18))) else (some (0, u8)))) : Option (Int32 × MS)).bind fun (v14, u15) => some (.inl (v14, x7 + 1, u15)))
noncomputable def lX6_canSkip_8 (c1 : Int32) (c2 : Int32) (c3 : Int32) (c4 : Int32) (c5 : Int32) (x6 : Int32) (x7 : Int32) (u8 : MS) : Option (Int32 × MS) := lp (bX6_canSkip_8 c1 c2 c3 c4 c5) (x6, x7, u8)
theorem lX6_canSkip_8_eq (c1 : Int32) (c2 : Int32) (c3 : Int32) (c4 : Int32) (c5 : Int32) (x6 : Int32) (x7 : Int32) (u8 : MS) : lX6_canSkip_8 c1 c2 c3 c4 c5 x6 x7 u8 = (if c3 ≤ x7 then (some (.inr (x6, u8))) else (((if x6 = 0 then (some (0, u8)) else ((fX6_has c5 x7).bind fun r16 => if r16 = 0 then ((fX6_isWithin c1 x7 c2 c3 c4 u8).bind fun (r17, u18) => if r17 = 0 then (some (0, u18)) else (some (1, u18))) else (some (0, u8)))) : Option (Int32 × MS)).bind fun (v14, u15) => some (.inl (v14, x7 + 1, u15)))).bind fun r => Sum.elim (fun z => lX6_canSkip_8 c1 c2 c3 c4 c5 z.1 z.2.1 z.2.2) (fun r => some r) r := lp_eq (bX6_canSkip_8 c1 c2 c3 c4 c5) (x6, x7, u8)
set_option maxRecDepth 100000 in
set_option maxHeartbeats 4000000 in
theorem tX6_canSkip_8 {p : Program} {l : Launch} {e : Env} {s : State} {m : MethodId} {args : Array Value} {below : List Frame} {meth : Method} {c : Code} {g : kG} {A : Nat → Prop} {Q : State → Prop} (a : Nat → Nat) (C : CT g p s m args meth c RX6 cX6_canSkip 8 (some .boolean) wsX6_canSkip A) (c1 : Int32) (c2 : Int32) (c3 : Int32) (c4 : Int32) (c5 : Int32) (y9 : Int32) (u10 : MS) (kk : ∀ (H : Heap) (locs : List Loc) (ls : Array Slot), ST g A s H locs (wM g a u10) → lv_has ls 8 [(6, .int y9)] → W p l e rX6_canSkip s m args below meth c H locs 0 0 Q (F0 m 56 ls [])) : ∀ (n : Nat) (x6 : Int32) (x7 : Int32) (u8 : MS), whl (bX6_canSkip_8 c1 c2 c3 c4 c5) n (x6, x7, u8) = some (y9, u10) → ∀ (H : Heap) (locs : List Loc) (ls : Array Slot), ST g A s H locs (wM g a u8) → lv_has ls 8 [(0, .ref (a 0)), (1, .int c1), (2, .int c2), (3, .int c3), (4, .int c4), (5, .int c5), (6, .int x6), (7, .int x7)] → W p l e rX6_canSkip s m args below meth c H locs 0 0 Q (F0 m 8 ls []) := by
  have hx := C.1
  have hb := C.2.1
  intro n
  induction n with
  | zero =>
    intro x6 x7 u8 hm
    cases hm
  | succ n ih =>
    intro x6 x7 u8 hm H locs ls X hl
    rw [whl] at hm
    obtain ⟨q, hq, hm2⟩ := bnd hm
    clear hm
    have hm := hq
    clear hq
    rw [bX6_canSkip_8] at hm
    refine lv_iload hx hb dX6_canSkip_8 (lv_at hl 7 rfl) ?_
    refine lv_iload_n hx hb dX6_canSkip_10 rfl (lv_at hl 3 rfl) ?_
    refine lv_icmp_ge (tgt := 56) hx hb dX6_canSkip_11 (by decide) (fun hc => ?_) (fun hc => ?_)
    · have hm := ifp hc hm
      cases sm hm
      cases sm hm2
      exact kk _ _ _ X (lv_sub hl [6] rfl)
    · have hm := ifn hc hm
      refine lv_iload hx hb dX6_canSkip_14 (lv_at hl 6 rfl) ?_
      obtain ⟨⟨v14, u15⟩, hE, hm⟩ := bnd hm
      have K : ∀ (H : Heap) (locs : List Loc) (ls : Array Slot), ST g A s H locs (wM g a u15) → lv_has ls 8 [(0, .ref (a 0)), (1, .int c1), (2, .int c2), (3, .int c3), (4, .int c4), (5, .int c5), (7, .int x7)] → W p l e rX6_canSkip s m args below meth c H locs 0 0 Q (F0 m 48 ls [.int v14]) := by
        intro H locs ls X hl
        clear hE
        refine lv_istore (lv' := [(6, .int v14), (0, .ref (a 0)), (1, .int c1), (2, .int c2), (3, .int c3), (4, .int c4), (5, .int c5), (7, .int x7)]) hx hb dX6_canSkip_48 hl (by decide) rfl (fun ls hl => ?_)
        refine lv_iinc (v := x7 + 1) (lv' := [(7, .int (x7 + 1)), (6, .int v14), (0, .ref (a 0)), (1, .int c1), (2, .int c2), (3, .int c3), (4, .int c4), (5, .int c5)]) hx hb dX6_canSkip_50 hl (k := 7) rfl rfl (by decide) rfl (fun ls hl => ?_)
        refine lv_goto (tgt := 8) hx hb dX6_canSkip_53 (by decide) ?_
        cases sm hm
        exact ih _ _ _ hm2 _ _ _ X (lv_sub hl [2, 3, 4, 5, 6, 7, 1, 0] rfl)
      clear hm
      have hm := hE
      clear hE
      refine lv_if_eq (tgt := 47) hx hb dX6_canSkip_16 (by decide) (fun hc => ?_) (fun hc => ?_)
      · have hm := ifp hc hm
        refine lv_iconst (v := 0) hx hb dX6_canSkip_47 (by decide) ?_
        cases sm hm
        exact K _ _ _ X (lv_sub hl [0, 1, 2, 3, 4, 5, 7] rfl)
      · have hm := ifn hc hm
        refine lv_iload hx hb dX6_canSkip_19 (lv_at hl 5 rfl) ?_
        refine lv_iload hx hb dX6_canSkip_21 (lv_at hl 7 rfl) ?_
        obtain ⟨r16, hcl, hm⟩ := bnd hm
        refine kS0 C X (kX6_has l g c5 x7 r16 hcl) (cw_X6_canSkip_X6_has_54 C) (As := [.int c5, .int x7]) rfl hl (rest := []) rfl (Nat.le_of_ble_eq_true rfl) (st2 := [.int r16]) rfl dX6_canSkip_23 ⟨Nat.le_of_ble_eq_true rfl, Nat.le_of_ble_eq_true rfl⟩ (fun H locs X => ?_)
        clear hcl
        refine lv_if_ne (tgt := 47) hx hb dX6_canSkip_26 (by decide) (fun hc => ?_) (fun hc => ?_)
        · have hm := ifn hc hm
          refine lv_iconst (v := 0) hx hb dX6_canSkip_47 (by decide) ?_
          cases sm hm
          exact K _ _ _ X (lv_sub hl [0, 1, 2, 3, 4, 5, 7] rfl)
        · have hm := ifp hc hm
          refine lv_aload_n hx hb dX6_canSkip_29 rfl (lv_at hl 0 rfl) ?_
          refine lv_iload_n hx hb dX6_canSkip_30 rfl (lv_at hl 1 rfl) ?_
          refine lv_iload hx hb dX6_canSkip_31 (lv_at hl 7 rfl) ?_
          refine lv_iload_n hx hb dX6_canSkip_33 rfl (lv_at hl 2 rfl) ?_
          refine lv_iload_n hx hb dX6_canSkip_34 rfl (lv_at hl 3 rfl) ?_
          refine lv_iload hx hb dX6_canSkip_35 (lv_at hl 4 rfl) ?_
          obtain ⟨⟨r17, u18⟩, hcl, hm⟩ := bnd hm
          refine kVW C X (kX6_isWithin l g a c1 x7 c2 c3 c4 u8 r17 u18 hcl) (cw_X6_canSkip_X6_isWithin_108 C) 0 (ci := 6) rfl rfl (As := [.int c1, .int x7, .int c2, .int c3, .int c4]) rfl hl (rest := []) rfl (Nat.le_of_ble_eq_true rfl) (st2 := [.int r17]) rfl dX6_canSkip_37 ⟨Nat.le_of_ble_eq_true rfl, Nat.le_of_ble_eq_true rfl⟩ (fun H locs X => ?_)
          clear hcl
          refine lv_if_eq (tgt := 47) hx hb dX6_canSkip_40 (by decide) (fun hc => ?_) (fun hc => ?_)
          · have hm := ifp hc hm
            refine lv_iconst (v := 0) hx hb dX6_canSkip_47 (by decide) ?_
            cases sm hm
            exact K _ _ _ X (lv_sub hl [0, 1, 2, 3, 4, 5, 7] rfl)
          · have hm := ifn hc hm
            refine lv_iconst (v := 1) hx hb dX6_canSkip_43 (by decide) ?_
            refine lv_goto (tgt := 48) hx hb dX6_canSkip_44 (by decide) ?_
            cases sm hm
            exact K _ _ _ X (lv_sub hl [0, 1, 2, 3, 4, 5, 7] rfl)
noncomputable def fX6_canSkip (p1 : Int32) (p2 : Int32) (p3 : Int32) (p4 : Int32) (p5 : Int32) (u : MS) : Option (Int32 × MS) := (lX6_canSkip_8 p1 p2 p3 p4 p5 1 (p2 + 1) u).bind fun (y19, u20) => gd (isb y19) (some (y19, u20))
set_option maxRecDepth 100000 in
set_option maxHeartbeats 4000000 in
theorem kX6_canSkip (l : Launch) (g : kG) (a : Nat → Nat) (p1 : Int32) (p2 : Int32) (p3 : Int32) (p4 : Int32) (p5 : Int32) (u : MS) (o1 : Int32) (o2 : MS) (hm : fX6_canSkip p1 p2 p3 p4 p5 u = some (o1, o2)) : KM l yX6_canSkip wsX6_canSkip rX6_canSkip g [.ref (a 0), .int p1, .int p2, .int p3, .int p4, .int p5] (wM g a u) (some (.int o1)) (wM g a o2) 0 0 := by
  refine KM.of (nL := 8) (by decide) rfl (Nat.le_of_ble_eq_true rfl) ?_
  intro p e s m args below meth c A ls C X hl
  have C : CT g p s m args meth c RX6 cX6_canSkip 8 (some .boolean) wsX6_canSkip A := C
  have hx := C.1
  have hb := C.2.1
  have hl : lv_has ls 8 [(0, .ref (a 0)), (1, .int p1), (2, .int p2), (3, .int p3), (4, .int p4), (5, .int p5)] := hl
  rw [fX6_canSkip] at hm
  refine lv_iconst (v := 1) hx hb dX6_canSkip_0 (by decide) ?_
  refine lv_istore (lv' := [(6, .int 1), (0, .ref (a 0)), (1, .int p1), (2, .int p2), (3, .int p3), (4, .int p4), (5, .int p5)]) hx hb dX6_canSkip_1 hl (by decide) rfl (fun ls hl => ?_)
  refine lv_iload_n hx hb dX6_canSkip_3 rfl (lv_at hl 3 rfl) ?_
  refine lv_iconst (v := 1) hx hb dX6_canSkip_4 (by decide) ?_
  refine lv_iadd hx hb dX6_canSkip_5 ?_
  refine lv_istore (lv' := [(7, .int (p2 + 1)), (6, .int 1), (0, .ref (a 0)), (1, .int p1), (2, .int p2), (3, .int p3), (4, .int p4), (5, .int p5)]) hx hb dX6_canSkip_6 hl (by decide) rfl (fun ls hl => ?_)
  obtain ⟨⟨y19, u20⟩, hL, hm⟩ := bnd hm
  obtain ⟨nn, hn⟩ := lp_run hL
  refine tX6_canSkip_8 a C p1 p2 p3 p4 p5 y19 u20 (fun H locs ls X hl => ?_) nn _ _ _ hn _ _ _ X (lv_sub hl [2, 3, 4, 5, 6, 7, 1, 0] rfl)
  clear hL hn
  refine lv_iload hx hb dX6_canSkip_56 (lv_at hl 0 rfl) ?_
  obtain ⟨hgb, hm⟩ := gd_t hm
  cases sm hm
  exact kzret (isb_n hgb) C X dX6_canSkip_58
-- X6 BrushStrokesModel.fewestPoints(II)I
abbrev rX6_fewestPoints : Room := { frames := 5, cells := 0, slots := 0, locals := 138 }
theorem fl_X6_fewestPoints_26 : (Cond.fieldLink RX6 26 "BrushStrokesModel" "fewest" "[I") ∈ wsX6_fewestPoints := by decide +kernel
theorem fl_X6_fewestPoints_29 : (Cond.fieldLink RX6 29 "BrushStrokesModel" "sets" "[I") ∈ wsX6_fewestPoints := by decide +kernel
theorem in_X6_fewestPoints_X6 : ∀ w ∈ u_ws RX6 TX6 16, w ∈ wsX6_fewestPoints := by decide +kernel
theorem cw_X6_fewestPoints_X6_canSkip_111 {p : Program} {s : State} {m : MethodId} {args : Array Value} {meth : Method} {c : Code} {g : kG} {A : Nat → Prop} (C : CT g p s m args meth c RX6 cX6_fewestPoints 7 (some .int) wsX6_fewestPoints A) : CallW rX6_fewestPoints s args RX6 RX6 111 yX6_canSkip cX6_canSkip 8 (some .boolean) wsX6_canSkip rX6_canSkip 0 0 5 := cwV 5 C.2.2.2.2.2.1 gX6_fewestPoints_X6_canSkip rfl rfl rfl (by decide +kernel) ⟨Nat.le_of_ble_eq_true rfl, Nat.le_of_ble_eq_true rfl⟩
theorem cw_X6_fewestPoints_X6_fixedSet_98 {p : Program} {s : State} {m : MethodId} {args : Array Value} {meth : Method} {c : Code} {g : kG} {A : Nat → Prop} (C : CT g p s m args meth c RX6 cX6_fewestPoints 7 (some .int) wsX6_fewestPoints A) : CallW rX6_fewestPoints s args RX6 RX6 98 yX6_fixedSet cX6_fixedSet 4 (some .int) wsX6_fixedSet rX6_fixedSet 0 0 1 := cwV 1 C.2.2.2.2.2.1 gX6_fewestPoints_X6_fixedSet rfl rfl rfl (by decide +kernel) ⟨Nat.le_of_ble_eq_true rfl, Nat.le_of_ble_eq_true rfl⟩
theorem cw_X6_fewestPoints_X6_points_47 {p : Program} {s : State} {m : MethodId} {args : Array Value} {meth : Method} {c : Code} {g : kG} {A : Nat → Prop} (C : CT g p s m args meth c RX6 cX6_fewestPoints 7 (some .int) wsX6_fewestPoints A) : CallW rX6_fewestPoints s args RX6 RX6 47 yX6_points cX6_points 2 (some .int) wsX6_points rX6_points 0 0 1 := cwV 1 C.2.2.2.2.2.1 gX6_fewestPoints_X6_points rfl rfl rfl (by decide +kernel) ⟨Nat.le_of_ble_eq_true rfl, Nat.le_of_ble_eq_true rfl⟩
noncomputable def bX6_fewestPoints_44 (c12 : Int32) (c13 : Int32) (c14 : Int32) (c15 : Int32) : Int32 × MS → Option ((Int32 × MS) ⊕ (MS))
  | (x16, u17) => if c15 ≤ x16 then (some (.inr u17)) else (gd (inb c15 24) (((if (M_fewest u17 c15.toNatClampNeg) = 0 then (some 1) else (gd (inb x16 24) (gd (inb c15 24) (if ((M_fewest u17 x16.toNatClampNeg) + 1) < (M_fewest u17 c15.toNatClampNeg) then (some 1) else (gd (inb x16 24) (gd (inb c15 24) (if ((M_fewest u17 x16.toNatClampNeg) + 1) = (M_fewest u17 c15.toNatClampNeg) then (gd (inb x16 24) (gd (inb c15 24) (if (M_sets u17 c15.toNatClampNeg) ≤ ((M_sets u17 x16.toNatClampNeg) ||| (1 <<< (c15 &&& 31))) then (some 0) else (some 1)))) else (some 0)))))))) : Option (Int32)).bind fun v19 => ((if v19 = 0 then (some u17) else ((fX6_canSkip c12 x16 c15 c13 c14 u17).bind fun (r25, u26) => if r25 = 0 then (some u26) else (gd (inb x16 24) (gd (inb c15 24) (lt (M_s_fewest u26 (upd (M_fewest u26) c15.toNatClampNeg ((M_fewest u26 x16.toNatClampNeg) + 1))) fun u27 => gd (inb x16 24) (gd (inb c15 24) (lt (M_s_sets u27 (upd (M_sets u27) c15.toNatClampNeg ((M_sets u27 x16.toNatClampNeg) ||| (1 <<< (c15 &&& 31))))) fun u28 => some u28))))))) : Option (MS)).bind fun u24 => some (.inl (x16 + 1, u24))))
noncomputable def lX6_fewestPoints_44 (c12 : Int32) (c13 : Int32) (c14 : Int32) (c15 : Int32) (x16 : Int32) (u17 : MS) : Option (MS) := lp (bX6_fewestPoints_44 c12 c13 c14 c15) (x16, u17)
theorem lX6_fewestPoints_44_eq (c12 : Int32) (c13 : Int32) (c14 : Int32) (c15 : Int32) (x16 : Int32) (u17 : MS) : lX6_fewestPoints_44 c12 c13 c14 c15 x16 u17 = (if c15 ≤ x16 then (some (.inr u17)) else (gd (inb c15 24) (((if (M_fewest u17 c15.toNatClampNeg) = 0 then (some 1) else (gd (inb x16 24) (gd (inb c15 24) (if ((M_fewest u17 x16.toNatClampNeg) + 1) < (M_fewest u17 c15.toNatClampNeg) then (some 1) else (gd (inb x16 24) (gd (inb c15 24) (if ((M_fewest u17 x16.toNatClampNeg) + 1) = (M_fewest u17 c15.toNatClampNeg) then (gd (inb x16 24) (gd (inb c15 24) (if (M_sets u17 c15.toNatClampNeg) ≤ ((M_sets u17 x16.toNatClampNeg) ||| (1 <<< (c15 &&& 31))) then (some 0) else (some 1)))) else (some 0)))))))) : Option (Int32)).bind fun v19 => ((if v19 = 0 then (some u17) else ((fX6_canSkip c12 x16 c15 c13 c14 u17).bind fun (r25, u26) => if r25 = 0 then (some u26) else (gd (inb x16 24) (gd (inb c15 24) (lt (M_s_fewest u26 (upd (M_fewest u26) c15.toNatClampNeg ((M_fewest u26 x16.toNatClampNeg) + 1))) fun u27 => gd (inb x16 24) (gd (inb c15 24) (lt (M_s_sets u27 (upd (M_sets u27) c15.toNatClampNeg ((M_sets u27 x16.toNatClampNeg) ||| (1 <<< (c15 &&& 31))))) fun u28 => some u28))))))) : Option (MS)).bind fun u24 => some (.inl (x16 + 1, u24))))).bind fun r => Sum.elim (fun z => lX6_fewestPoints_44 c12 c13 c14 c15 z.1 z.2) (fun r => some r) r := lp_eq (bX6_fewestPoints_44 c12 c13 c14 c15) (x16, u17)
set_option maxRecDepth 100000 in
set_option maxHeartbeats 4000000 in
theorem tX6_fewestPoints_44 {p : Program} {l : Launch} {e : Env} {s : State} {m : MethodId} {args : Array Value} {below : List Frame} {meth : Method} {c : Code} {g : kG} {A : Nat → Prop} {Q : State → Prop} (a : Nat → Nat) (C : CT g p s m args meth c RX6 cX6_fewestPoints 7 (some .int) wsX6_fewestPoints A) (c12 : Int32) (c13 : Int32) (c14 : Int32) (c15 : Int32) (u18 : MS) (kk : ∀ (H : Heap) (locs : List Loc) (ls : Array Slot), ST g A s H locs (wM g a u18) → lv_has ls 7 [(0, .ref (a 0)), (1, .int c12), (2, .int c13), (3, .int c14), (4, .int c15)] → W p l e rX6_fewestPoints s m args below meth c H locs 0 0 Q (F0 m 188 ls [])) : ∀ (n : Nat) (x16 : Int32) (u17 : MS), whl (bX6_fewestPoints_44 c12 c13 c14 c15) n (x16, u17) = some u18 → ∀ (H : Heap) (locs : List Loc) (ls : Array Slot), ST g A s H locs (wM g a u17) → lv_has ls 7 [(0, .ref (a 0)), (1, .int c12), (2, .int c13), (3, .int c14), (4, .int c15), (5, .int x16)] → W p l e rX6_fewestPoints s m args below meth c H locs 0 0 Q (F0 m 44 ls []) := by
  have hx := C.1
  have hb := C.2.1
  have hinX6 := in_X6_fewestPoints_X6
  have hf26 := C.2.2.2.2.2.1 _ fl_X6_fewestPoints_26
  have hf29 := C.2.2.2.2.2.1 _ fl_X6_fewestPoints_29
  intro n
  induction n with
  | zero =>
    intro x16 u17 hm
    cases hm
  | succ n ih =>
    intro x16 u17 hm H locs ls X hl
    rw [whl] at hm
    obtain ⟨q, hq, hm2⟩ := bnd hm
    clear hm
    have hm := hq
    clear hq
    rw [bX6_fewestPoints_44] at hm
    refine lv_iload hx hb dX6_fewestPoints_44 (lv_at hl 5 rfl) ?_
    refine lv_iload hx hb dX6_fewestPoints_46 (lv_at hl 4 rfl) ?_
    refine lv_icmp_ge (tgt := 188) hx hb dX6_fewestPoints_48 (by decide) (fun hc => ?_) (fun hc => ?_)
    · have hm := ifp hc hm
      cases sm hm
      cases sm hm2
      exact kk _ _ _ X (lv_sub hl [0, 1, 2, 3, 4] rfl)
    · have hm := ifn hc hm
      refine lv_aload_n hx hb dX6_fewestPoints_51 rfl (lv_at hl 0 rfl) ?_
      refine kget C X 0 (ci := 6) rfl rfl hinX6 10 (by decide) hf26 (v := .ref (a 6)) rfl dX6_fewestPoints_52 ?_
      refine lv_iload hx hb dX6_fewestPoints_55 (lv_at hl 4 rfl) ?_
      obtain ⟨hgi, hm⟩ := gd_t hm
      refine kiald C X 6 rfl hgi dX6_fewestPoints_57 ?_
      obtain ⟨v19, hE, hm⟩ := bnd hm
      have K : ∀ (H : Heap) (locs : List Loc) (ls : Array Slot), ST g A s H locs (wM g a u17) → lv_has ls 7 [(0, .ref (a 0)), (1, .int c12), (2, .int c13), (3, .int c14), (4, .int c15), (5, .int x16)] → W p l e rX6_fewestPoints s m args below meth c H locs 0 0 Q (F0 m 126 ls [.int v19]) := by
        intro H locs ls X hl
        clear hE
        refine lv_istore (lv' := [(6, .int v19), (0, .ref (a 0)), (1, .int c12), (2, .int c13), (3, .int c14), (4, .int c15), (5, .int x16)]) hx hb dX6_fewestPoints_126 hl (by decide) rfl (fun ls hl => ?_)
        refine lv_iload hx hb dX6_fewestPoints_128 (lv_at hl 0 rfl) ?_
        obtain ⟨u24, hE, hm⟩ := bnd hm
        have K : ∀ (H : Heap) (locs : List Loc) (ls : Array Slot), ST g A s H locs (wM g a u24) → lv_has ls 7 [(0, .ref (a 0)), (1, .int c12), (2, .int c13), (3, .int c14), (4, .int c15), (5, .int x16)] → W p l e rX6_fewestPoints s m args below meth c H locs 0 0 Q (F0 m 182 ls []) := by
          intro H locs ls X hl
          clear hE
          refine lv_iinc (v := x16 + 1) (lv' := [(5, .int (x16 + 1)), (0, .ref (a 0)), (1, .int c12), (2, .int c13), (3, .int c14), (4, .int c15)]) hx hb dX6_fewestPoints_182 hl (k := 5) rfl rfl (by decide) rfl (fun ls hl => ?_)
          refine lv_goto (tgt := 44) hx hb dX6_fewestPoints_185 (by decide) ?_
          cases sm hm
          exact ih _ _ hm2 _ _ _ X (lv_sub hl [1, 2, 3, 4, 5, 0] rfl)
        clear hm
        have hm := hE
        clear hE
        refine lv_if_eq (tgt := 182) hx hb dX6_fewestPoints_130 (by decide) (fun hc => ?_) (fun hc => ?_)
        · have hm := ifp hc hm
          cases sm hm
          exact K _ _ _ X (lv_sub hl [1, 2, 3, 4, 5, 6] rfl)
        · have hm := ifn hc hm
          refine lv_aload_n hx hb dX6_fewestPoints_133 rfl (lv_at hl 1 rfl) ?_
          refine lv_iload_n hx hb dX6_fewestPoints_134 rfl (lv_at hl 2 rfl) ?_
          refine lv_iload hx hb dX6_fewestPoints_135 (lv_at hl 6 rfl) ?_
          refine lv_iload hx hb dX6_fewestPoints_137 (lv_at hl 5 rfl) ?_
          refine lv_iload_n hx hb dX6_fewestPoints_139 rfl (lv_at hl 3 rfl) ?_
          refine lv_iload_n hx hb dX6_fewestPoints_140 rfl (lv_at hl 4 rfl) ?_
          obtain ⟨⟨r25, u26⟩, hcl, hm⟩ := bnd hm
          refine kVW C X (kX6_canSkip l g a c12 x16 c15 c13 c14 u17 r25 u26 hcl) (cw_X6_fewestPoints_X6_canSkip_111 C) 0 (ci := 6) rfl rfl (As := [.int c12, .int x16, .int c15, .int c13, .int c14]) rfl hl (rest := []) rfl (Nat.le_of_ble_eq_true rfl) (st2 := [.int r25]) rfl dX6_fewestPoints_141 ⟨Nat.le_of_ble_eq_true rfl, Nat.le_of_ble_eq_true rfl⟩ (fun H locs X => ?_)
          clear hcl
          refine lv_if_eq (tgt := 182) hx hb dX6_fewestPoints_144 (by decide) (fun hc => ?_) (fun hc => ?_)
          · have hm := ifp hc hm
            cases sm hm
            exact K _ _ _ X (lv_sub hl [1, 2, 3, 4, 5, 6] rfl)
          · have hm := ifn hc hm
            refine lv_aload_n hx hb dX6_fewestPoints_147 rfl (lv_at hl 1 rfl) ?_
            refine kget C X 0 (ci := 6) rfl rfl hinX6 10 (by decide) hf26 (v := .ref (a 6)) rfl dX6_fewestPoints_148 ?_
            refine lv_iload hx hb dX6_fewestPoints_151 (lv_at hl 5 rfl) ?_
            refine lv_aload_n hx hb dX6_fewestPoints_153 rfl (lv_at hl 1 rfl) ?_
            refine kget C X 0 (ci := 6) rfl rfl hinX6 10 (by decide) hf26 (v := .ref (a 6)) rfl dX6_fewestPoints_154 ?_
            refine lv_iload hx hb dX6_fewestPoints_157 (lv_at hl 6 rfl) ?_
            obtain ⟨hgi, hm⟩ := gd_t hm
            refine kiald C X 6 rfl hgi dX6_fewestPoints_159 ?_
            refine lv_iconst (v := 1) hx hb dX6_fewestPoints_160 (by decide) ?_
            refine lv_iadd hx hb dX6_fewestPoints_161 ?_
            obtain ⟨hgi, hm⟩ := gd_t hm
            obtain ⟨u27, eu⟩ : ∃ z, z = M_s_fewest u26 (upd (M_fewest u26) c15.toNatClampNeg ((M_fewest u26 x16.toNatClampNeg) + 1)) := ⟨_, rfl⟩
            have hm := lt_t eu hm
            refine kiast C X 6 rfl hgi (w2 := wM g a u27) (by subst eu; rfl) dX6_fewestPoints_162 (fun H locs X => ?_)
            clear eu
            refine lv_aload_n hx hb dX6_fewestPoints_163 rfl (lv_at hl 1 rfl) ?_
            refine kget C X 0 (ci := 6) rfl rfl hinX6 11 (by decide) hf29 (v := .ref (a 7)) rfl dX6_fewestPoints_164 ?_
            refine lv_iload hx hb dX6_fewestPoints_167 (lv_at hl 5 rfl) ?_
            refine lv_aload_n hx hb dX6_fewestPoints_169 rfl (lv_at hl 1 rfl) ?_
            refine kget C X 0 (ci := 6) rfl rfl hinX6 11 (by decide) hf29 (v := .ref (a 7)) rfl dX6_fewestPoints_170 ?_
            refine lv_iload hx hb dX6_fewestPoints_173 (lv_at hl 6 rfl) ?_
            obtain ⟨hgi, hm⟩ := gd_t hm
            refine kiald C X 7 rfl hgi dX6_fewestPoints_175 ?_
            refine lv_iconst (v := 1) hx hb dX6_fewestPoints_176 (by decide) ?_
            refine lv_iload hx hb dX6_fewestPoints_177 (lv_at hl 5 rfl) ?_
            refine lv_ishl hx hb dX6_fewestPoints_179 ?_
            refine lv_ior hx hb dX6_fewestPoints_180 ?_
            obtain ⟨hgi, hm⟩ := gd_t hm
            obtain ⟨u28, eu⟩ : ∃ z, z = M_s_sets u27 (upd (M_sets u27) c15.toNatClampNeg ((M_sets u27 x16.toNatClampNeg) ||| (1 <<< (c15 &&& 31)))) := ⟨_, rfl⟩
            have hm := lt_t eu hm
            refine kiast C X 7 rfl hgi (w2 := wM g a u28) (by subst eu; rfl) dX6_fewestPoints_181 (fun H locs X => ?_)
            clear eu
            cases sm hm
            exact K _ _ _ X (lv_sub hl [1, 2, 3, 4, 5, 6] rfl)
      clear hm
      have hm := hE
      clear hE
      refine lv_if_eq (tgt := 121) hx hb dX6_fewestPoints_58 (by decide) (fun hc => ?_) (fun hc => ?_)
      · have hm := ifp hc hm
        refine lv_iconst (v := 1) hx hb dX6_fewestPoints_121 (by decide) ?_
        refine lv_goto (tgt := 126) hx hb dX6_fewestPoints_122 (by decide) ?_
        cases sm hm
        exact K _ _ _ X (lv_sub hl [0, 1, 2, 3, 4, 5] rfl)
      · have hm := ifn hc hm
        refine lv_aload_n hx hb dX6_fewestPoints_61 rfl (lv_at hl 0 rfl) ?_
        refine kget C X 0 (ci := 6) rfl rfl hinX6 10 (by decide) hf26 (v := .ref (a 6)) rfl dX6_fewestPoints_62 ?_
        refine lv_iload hx hb dX6_fewestPoints_65 (lv_at hl 5 rfl) ?_
        obtain ⟨hgi, hm⟩ := gd_t hm
        refine kiald C X 6 rfl hgi dX6_fewestPoints_67 ?_
        refine lv_iconst (v := 1) hx hb dX6_fewestPoints_68 (by decide) ?_
        refine lv_iadd hx hb dX6_fewestPoints_69 ?_
        refine lv_aload_n hx hb dX6_fewestPoints_70 rfl (lv_at hl 0 rfl) ?_
        refine kget C X 0 (ci := 6) rfl rfl hinX6 10 (by decide) hf26 (v := .ref (a 6)) rfl dX6_fewestPoints_71 ?_
        refine lv_iload hx hb dX6_fewestPoints_74 (lv_at hl 4 rfl) ?_
        obtain ⟨hgi, hm⟩ := gd_t hm
        refine kiald C X 6 rfl hgi dX6_fewestPoints_76 ?_
        refine lv_icmp_lt (tgt := 121) hx hb dX6_fewestPoints_77 (by decide) (fun hc => ?_) (fun hc => ?_)
        · have hm := ifp hc hm
          refine lv_iconst (v := 1) hx hb dX6_fewestPoints_121 (by decide) ?_
          refine lv_goto (tgt := 126) hx hb dX6_fewestPoints_122 (by decide) ?_
          cases sm hm
          exact K _ _ _ X (lv_sub hl [0, 1, 2, 3, 4, 5] rfl)
        · have hm := ifn hc hm
          refine lv_aload_n hx hb dX6_fewestPoints_80 rfl (lv_at hl 0 rfl) ?_
          refine kget C X 0 (ci := 6) rfl rfl hinX6 10 (by decide) hf26 (v := .ref (a 6)) rfl dX6_fewestPoints_81 ?_
          refine lv_iload hx hb dX6_fewestPoints_84 (lv_at hl 5 rfl) ?_
          obtain ⟨hgi, hm⟩ := gd_t hm
          refine kiald C X 6 rfl hgi dX6_fewestPoints_86 ?_
          refine lv_iconst (v := 1) hx hb dX6_fewestPoints_87 (by decide) ?_
          refine lv_iadd hx hb dX6_fewestPoints_88 ?_
          refine lv_aload_n hx hb dX6_fewestPoints_89 rfl (lv_at hl 0 rfl) ?_
          refine kget C X 0 (ci := 6) rfl rfl hinX6 10 (by decide) hf26 (v := .ref (a 6)) rfl dX6_fewestPoints_90 ?_
          refine lv_iload hx hb dX6_fewestPoints_93 (lv_at hl 4 rfl) ?_
          obtain ⟨hgi, hm⟩ := gd_t hm
          refine kiald C X 6 rfl hgi dX6_fewestPoints_95 ?_
          refine lv_icmp_ne (tgt := 125) hx hb dX6_fewestPoints_96 (by decide) (fun hc => ?_) (fun hc => ?_)
          · have hm := ifn hc hm
            refine lv_iconst (v := 0) hx hb dX6_fewestPoints_125 (by decide) ?_
            cases sm hm
            exact K _ _ _ X (lv_sub hl [0, 1, 2, 3, 4, 5] rfl)
          · have hm := ifp hc hm
            refine lv_aload_n hx hb dX6_fewestPoints_99 rfl (lv_at hl 0 rfl) ?_
            refine kget C X 0 (ci := 6) rfl rfl hinX6 11 (by decide) hf29 (v := .ref (a 7)) rfl dX6_fewestPoints_100 ?_
            refine lv_iload hx hb dX6_fewestPoints_103 (lv_at hl 5 rfl) ?_
            obtain ⟨hgi, hm⟩ := gd_t hm
            refine kiald C X 7 rfl hgi dX6_fewestPoints_105 ?_
            refine lv_iconst (v := 1) hx hb dX6_fewestPoints_106 (by decide) ?_
            refine lv_iload hx hb dX6_fewestPoints_107 (lv_at hl 4 rfl) ?_
            refine lv_ishl hx hb dX6_fewestPoints_109 ?_
            refine lv_ior hx hb dX6_fewestPoints_110 ?_
            refine lv_aload_n hx hb dX6_fewestPoints_111 rfl (lv_at hl 0 rfl) ?_
            refine kget C X 0 (ci := 6) rfl rfl hinX6 11 (by decide) hf29 (v := .ref (a 7)) rfl dX6_fewestPoints_112 ?_
            refine lv_iload hx hb dX6_fewestPoints_115 (lv_at hl 4 rfl) ?_
            obtain ⟨hgi, hm⟩ := gd_t hm
            refine kiald C X 7 rfl hgi dX6_fewestPoints_117 ?_
            refine lv_icmp_ge (tgt := 125) hx hb dX6_fewestPoints_118 (by decide) (fun hc => ?_) (fun hc => ?_)
            · have hm := ifp hc hm
              refine lv_iconst (v := 0) hx hb dX6_fewestPoints_125 (by decide) ?_
              cases sm hm
              exact K _ _ _ X (lv_sub hl [0, 1, 2, 3, 4, 5] rfl)
            · have hm := ifn hc hm
              refine lv_iconst (v := 1) hx hb dX6_fewestPoints_121 (by decide) ?_
              refine lv_goto (tgt := 126) hx hb dX6_fewestPoints_122 (by decide) ?_
              cases sm hm
              exact K _ _ _ X (lv_sub hl [0, 1, 2, 3, 4, 5] rfl)
noncomputable def bX6_fewestPoints_23 (c4 : Int32) (c5 : Int32) (c6 : Int32) : Int32 × MS → Option ((Int32 × MS) ⊕ (MS))
  | (x7, u8) => (fX6_points c4 u8).bind fun r10 => if r10 ≤ x7 then (some (.inr u8)) else (gd (inb x7 24) (lt (M_s_fewest u8 (upd (M_fewest u8) x7.toNatClampNeg 0)) fun u11 => (lX6_fewestPoints_44 c4 c5 c6 x7 0 u11).bind fun u29 => some (.inl (x7 + 1, u29))))
noncomputable def lX6_fewestPoints_23 (c4 : Int32) (c5 : Int32) (c6 : Int32) (x7 : Int32) (u8 : MS) : Option (MS) := lp (bX6_fewestPoints_23 c4 c5 c6) (x7, u8)
theorem lX6_fewestPoints_23_eq (c4 : Int32) (c5 : Int32) (c6 : Int32) (x7 : Int32) (u8 : MS) : lX6_fewestPoints_23 c4 c5 c6 x7 u8 = ((fX6_points c4 u8).bind fun r10 => if r10 ≤ x7 then (some (.inr u8)) else (gd (inb x7 24) (lt (M_s_fewest u8 (upd (M_fewest u8) x7.toNatClampNeg 0)) fun u11 => (lX6_fewestPoints_44 c4 c5 c6 x7 0 u11).bind fun u29 => some (.inl (x7 + 1, u29))))).bind fun r => Sum.elim (fun z => lX6_fewestPoints_23 c4 c5 c6 z.1 z.2) (fun r => some r) r := lp_eq (bX6_fewestPoints_23 c4 c5 c6) (x7, u8)
set_option maxRecDepth 100000 in
set_option maxHeartbeats 4000000 in
theorem tX6_fewestPoints_23 {p : Program} {l : Launch} {e : Env} {s : State} {m : MethodId} {args : Array Value} {below : List Frame} {meth : Method} {c : Code} {g : kG} {A : Nat → Prop} {Q : State → Prop} (a : Nat → Nat) (C : CT g p s m args meth c RX6 cX6_fewestPoints 7 (some .int) wsX6_fewestPoints A) (c4 : Int32) (c5 : Int32) (c6 : Int32) (u9 : MS) (kk : ∀ (H : Heap) (locs : List Loc) (ls : Array Slot), ST g A s H locs (wM g a u9) → lv_has ls 7 [(0, .ref (a 0)), (1, .int c4)] → W p l e rX6_fewestPoints s m args below meth c H locs 0 0 Q (F0 m 194 ls [])) : ∀ (n : Nat) (x7 : Int32) (u8 : MS), whl (bX6_fewestPoints_23 c4 c5 c6) n (x7, u8) = some u9 → ∀ (H : Heap) (locs : List Loc) (ls : Array Slot), ST g A s H locs (wM g a u8) → lv_has ls 7 [(0, .ref (a 0)), (1, .int c4), (2, .int c5), (3, .int c6), (4, .int x7)] → W p l e rX6_fewestPoints s m args below meth c H locs 0 0 Q (F0 m 23 ls []) := by
  have hx := C.1
  have hb := C.2.1
  have hinX6 := in_X6_fewestPoints_X6
  have hf26 := C.2.2.2.2.2.1 _ fl_X6_fewestPoints_26
  intro n
  induction n with
  | zero =>
    intro x7 u8 hm
    cases hm
  | succ n ih =>
    intro x7 u8 hm H locs ls X hl
    rw [whl] at hm
    obtain ⟨q, hq, hm2⟩ := bnd hm
    clear hm
    have hm := hq
    clear hq
    rw [bX6_fewestPoints_23] at hm
    refine lv_iload hx hb dX6_fewestPoints_23 (lv_at hl 4 rfl) ?_
    refine lv_aload_n hx hb dX6_fewestPoints_25 rfl (lv_at hl 0 rfl) ?_
    refine lv_iload_n hx hb dX6_fewestPoints_26 rfl (lv_at hl 1 rfl) ?_
    obtain ⟨r10, hcl, hm⟩ := bnd hm
    refine kVW C X (kX6_points l g a c4 u8 r10 hcl) (cw_X6_fewestPoints_X6_points_47 C) 0 (ci := 6) rfl rfl (As := [.int c4]) rfl hl (rest := [.int x7]) rfl (Nat.le_of_ble_eq_true rfl) (st2 := [.int r10, .int x7]) rfl dX6_fewestPoints_27 ⟨Nat.le_of_ble_eq_true rfl, Nat.le_of_ble_eq_true rfl⟩ (fun H locs X => ?_)
    clear hcl
    refine lv_icmp_ge (tgt := 194) hx hb dX6_fewestPoints_30 (by decide) (fun hc => ?_) (fun hc => ?_)
    · have hm := ifp hc hm
      cases sm hm
      cases sm hm2
      exact kk _ _ _ X (lv_sub hl [0, 1] rfl)
    · have hm := ifn hc hm
      refine lv_aload_n hx hb dX6_fewestPoints_33 rfl (lv_at hl 0 rfl) ?_
      refine kget C X 0 (ci := 6) rfl rfl hinX6 10 (by decide) hf26 (v := .ref (a 6)) rfl dX6_fewestPoints_34 ?_
      refine lv_iload hx hb dX6_fewestPoints_37 (lv_at hl 4 rfl) ?_
      refine lv_iconst (v := 0) hx hb dX6_fewestPoints_39 (by decide) ?_
      obtain ⟨hgi, hm⟩ := gd_t hm
      obtain ⟨u11, eu⟩ : ∃ z, z = M_s_fewest u8 (upd (M_fewest u8) x7.toNatClampNeg 0) := ⟨_, rfl⟩
      have hm := lt_t eu hm
      refine kiast C X 6 rfl hgi (w2 := wM g a u11) (by subst eu; rfl) dX6_fewestPoints_40 (fun H locs X => ?_)
      clear eu
      refine lv_iconst (v := 0) hx hb dX6_fewestPoints_41 (by decide) ?_
      refine lv_istore (lv' := [(5, .int 0), (0, .ref (a 0)), (1, .int c4), (2, .int c5), (3, .int c6), (4, .int x7)]) hx hb dX6_fewestPoints_42 hl (by decide) rfl (fun ls hl => ?_)
      obtain ⟨u29, hL, hm⟩ := bnd hm
      obtain ⟨nn, hn⟩ := lp_run hL
      refine tX6_fewestPoints_44 a C c4 c5 c6 x7 u29 (fun H locs ls X hl => ?_) nn _ _ hn _ _ _ X (lv_sub hl [1, 2, 3, 4, 5, 0] rfl)
      clear hL hn
      refine lv_iinc (v := x7 + 1) (lv' := [(4, .int (x7 + 1)), (0, .ref (a 0)), (1, .int c4), (2, .int c5), (3, .int c6)]) hx hb dX6_fewestPoints_188 hl (k := 4) rfl rfl (by decide) rfl (fun ls hl => ?_)
      refine lv_goto (tgt := 23) hx hb dX6_fewestPoints_191 (by decide) ?_
      cases sm hm
      exact ih _ _ hm2 _ _ _ X (lv_sub hl [1, 2, 3, 4, 0] rfl)
noncomputable def fX6_fewestPoints (p1 : Int32) (p2 : Int32) (u : MS) : Option (Int32 × MS) := (fX6_fixedSet p1 u).bind fun r1 => gd (inb 0 24) (lt (M_s_fewest u (upd (M_fewest u) (0 : Int32).toNatClampNeg 1)) fun u2 => gd (inb 0 24) (lt (M_s_sets u2 (upd (M_sets u2) (0 : Int32).toNatClampNeg 1)) fun u3 => (lX6_fewestPoints_23 p1 p2 r1 1 u3).bind fun u30 => (fX6_points p1 u30).bind fun r31 => gd (inb (r31 - 1) 24) (some (M_sets u30 (r31 - 1).toNatClampNeg, u30))))
set_option maxRecDepth 100000 in
set_option maxHeartbeats 4000000 in
theorem kX6_fewestPoints (l : Launch) (g : kG) (a : Nat → Nat) (p1 : Int32) (p2 : Int32) (u : MS) (o1 : Int32) (o2 : MS) (hm : fX6_fewestPoints p1 p2 u = some (o1, o2)) : KM l yX6_fewestPoints wsX6_fewestPoints rX6_fewestPoints g [.ref (a 0), .int p1, .int p2] (wM g a u) (some (.int o1)) (wM g a o2) 0 0 := by
  refine KM.of (nL := 7) (by decide) rfl (Nat.le_of_ble_eq_true rfl) ?_
  intro p e s m args below meth c A ls C X hl
  have C : CT g p s m args meth c RX6 cX6_fewestPoints 7 (some .int) wsX6_fewestPoints A := C
  have hx := C.1
  have hb := C.2.1
  have hl : lv_has ls 7 [(0, .ref (a 0)), (1, .int p1), (2, .int p2)] := hl
  have hinX6 := in_X6_fewestPoints_X6
  have hf26 := C.2.2.2.2.2.1 _ fl_X6_fewestPoints_26
  have hf29 := C.2.2.2.2.2.1 _ fl_X6_fewestPoints_29
  rw [fX6_fewestPoints] at hm
  refine lv_aload_n hx hb dX6_fewestPoints_0 rfl (lv_at hl 0 rfl) ?_
  refine lv_iload_n hx hb dX6_fewestPoints_1 rfl (lv_at hl 1 rfl) ?_
  obtain ⟨r1, hcl, hm⟩ := bnd hm
  refine kVW C X (kX6_fixedSet l g a p1 u r1 hcl) (cw_X6_fewestPoints_X6_fixedSet_98 C) 0 (ci := 6) rfl rfl (As := [.int p1]) rfl hl (rest := []) rfl (Nat.le_of_ble_eq_true rfl) (st2 := [.int r1]) rfl dX6_fewestPoints_2 ⟨Nat.le_of_ble_eq_true rfl, Nat.le_of_ble_eq_true rfl⟩ (fun H locs X => ?_)
  clear hcl
  refine lv_istore_n (lv' := [(3, .int r1), (0, .ref (a 0)), (1, .int p1), (2, .int p2)]) hx hb dX6_fewestPoints_5 rfl hl (by decide) rfl (fun ls hl => ?_)
  refine lv_aload_n hx hb dX6_fewestPoints_6 rfl (lv_at hl 1 rfl) ?_
  refine kget C X 0 (ci := 6) rfl rfl hinX6 10 (by decide) hf26 (v := .ref (a 6)) rfl dX6_fewestPoints_7 ?_
  refine lv_iconst (v := 0) hx hb dX6_fewestPoints_10 (by decide) ?_
  refine lv_iconst (v := 1) hx hb dX6_fewestPoints_11 (by decide) ?_
  obtain ⟨hgi, hm⟩ := gd_t hm
  obtain ⟨u2, eu⟩ : ∃ z, z = M_s_fewest u (upd (M_fewest u) (0 : Int32).toNatClampNeg 1) := ⟨_, rfl⟩
  have hm := lt_t eu hm
  refine kiast C X 6 rfl hgi (w2 := wM g a u2) (by subst eu; rfl) dX6_fewestPoints_12 (fun H locs X => ?_)
  clear eu
  refine lv_aload_n hx hb dX6_fewestPoints_13 rfl (lv_at hl 1 rfl) ?_
  refine kget C X 0 (ci := 6) rfl rfl hinX6 11 (by decide) hf29 (v := .ref (a 7)) rfl dX6_fewestPoints_14 ?_
  refine lv_iconst (v := 0) hx hb dX6_fewestPoints_17 (by decide) ?_
  refine lv_iconst (v := 1) hx hb dX6_fewestPoints_18 (by decide) ?_
  obtain ⟨hgi, hm⟩ := gd_t hm
  obtain ⟨u3, eu⟩ : ∃ z, z = M_s_sets u2 (upd (M_sets u2) (0 : Int32).toNatClampNeg 1) := ⟨_, rfl⟩
  have hm := lt_t eu hm
  refine kiast C X 7 rfl hgi (w2 := wM g a u3) (by subst eu; rfl) dX6_fewestPoints_19 (fun H locs X => ?_)
  clear eu
  refine lv_iconst (v := 1) hx hb dX6_fewestPoints_20 (by decide) ?_
  refine lv_istore (lv' := [(4, .int 1), (3, .int r1), (0, .ref (a 0)), (1, .int p1), (2, .int p2)]) hx hb dX6_fewestPoints_21 hl (by decide) rfl (fun ls hl => ?_)
  obtain ⟨u30, hL, hm⟩ := bnd hm
  obtain ⟨nn, hn⟩ := lp_run hL
  refine tX6_fewestPoints_23 a C p1 p2 r1 u30 (fun H locs ls X hl => ?_) nn _ _ hn _ _ _ X (lv_sub hl [2, 3, 4, 1, 0] rfl)
  clear hL hn
  refine lv_aload_n hx hb dX6_fewestPoints_194 rfl (lv_at hl 0 rfl) ?_
  refine kget C X 0 (ci := 6) rfl rfl hinX6 11 (by decide) hf29 (v := .ref (a 7)) rfl dX6_fewestPoints_195 ?_
  refine lv_aload_n hx hb dX6_fewestPoints_198 rfl (lv_at hl 0 rfl) ?_
  refine lv_iload_n hx hb dX6_fewestPoints_199 rfl (lv_at hl 1 rfl) ?_
  obtain ⟨r31, hcl, hm⟩ := bnd hm
  refine kVW C X (kX6_points l g a p1 u30 r31 hcl) (cw_X6_fewestPoints_X6_points_47 C) 0 (ci := 6) rfl rfl (As := [.int p1]) rfl hl (rest := [.ref (a 7)]) rfl (Nat.le_of_ble_eq_true rfl) (st2 := [.int r31, .ref (a 7)]) rfl dX6_fewestPoints_200 ⟨Nat.le_of_ble_eq_true rfl, Nat.le_of_ble_eq_true rfl⟩ (fun H locs X => ?_)
  clear hcl
  refine lv_iconst (v := 1) hx hb dX6_fewestPoints_203 (by decide) ?_
  refine lv_isub hx hb dX6_fewestPoints_204 ?_
  obtain ⟨hgi, hm⟩ := gd_t hm
  refine kiald C X 7 rfl hgi dX6_fewestPoints_205 ?_
  cases sm hm
  exact kiret C X dX6_fewestPoints_206
-- X6 BrushStrokesModel.simplified(III)I
abbrev rX6_simplified : Room := { frames := 6, cells := 0, slots := 0, locals := 164 }
theorem cw_X6_simplified_X6_fewestPoints_117 {p : Program} {s : State} {m : MethodId} {args : Array Value} {meth : Method} {c : Code} {g : kG} {A : Nat → Prop} (C : CT g p s m args meth c RX6 cX6_simplified 4 (some .int) wsX6_simplified A) : CallW rX6_simplified s args RX6 RX6 117 yX6_fewestPoints cX6_fewestPoints 7 (some .int) wsX6_fewestPoints rX6_fewestPoints 0 0 2 := cwV 2 C.2.2.2.2.2.1 gX6_simplified_X6_fewestPoints rfl rfl rfl (by decide +kernel) ⟨Nat.le_of_ble_eq_true rfl, Nat.le_of_ble_eq_true rfl⟩
theorem cw_X6_simplified_X6_split_114 {p : Program} {s : State} {m : MethodId} {args : Array Value} {meth : Method} {c : Code} {g : kG} {A : Nat → Prop} (C : CT g p s m args meth c RX6 cX6_simplified 4 (some .int) wsX6_simplified A) : CallW rX6_simplified s args RX6 RX6 114 yX6_split cX6_split 7 (some .int) wsX6_split rX6_split 0 0 2 := cwV 2 C.2.2.2.2.2.1 gX6_simplified_X6_split rfl rfl rfl (by decide +kernel) ⟨Nat.le_of_ble_eq_true rfl, Nat.le_of_ble_eq_true rfl⟩
noncomputable def fX6_simplified (p1 : Int32) (p2 : Int32) (p3 : Int32) (u : MS) : Option (Int32 × MS) := ((if p3 = 0 then ((fX6_split p1 p2 u).bind fun (r9, u10) => some (r9, u10)) else ((fX6_fewestPoints p1 p2 u).bind fun (r7, u8) => some (r7, u8))) : Option (Int32 × MS)).bind fun (v5, u6) => some (v5, u6)
set_option maxRecDepth 100000 in
set_option maxHeartbeats 4000000 in
theorem kX6_simplified (l : Launch) (g : kG) (a : Nat → Nat) (p1 : Int32) (p2 : Int32) (p3 : Int32) (u : MS) (o1 : Int32) (o2 : MS) (hm : fX6_simplified p1 p2 p3 u = some (o1, o2)) : KM l yX6_simplified wsX6_simplified rX6_simplified g [.ref (a 0), .int p1, .int p2, .int p3] (wM g a u) (some (.int o1)) (wM g a o2) 0 0 := by
  refine KM.of (nL := 4) (by decide) rfl (Nat.le_of_ble_eq_true rfl) ?_
  intro p e s m args below meth c A ls C X hl
  have C : CT g p s m args meth c RX6 cX6_simplified 4 (some .int) wsX6_simplified A := C
  have hx := C.1
  have hb := C.2.1
  have hl : lv_has ls 4 [(0, .ref (a 0)), (1, .int p1), (2, .int p2), (3, .int p3)] := hl
  rw [fX6_simplified] at hm
  refine lv_iload_n hx hb dX6_simplified_0 rfl (lv_at hl 3 rfl) ?_
  obtain ⟨⟨v5, u6⟩, hE, hm⟩ := bnd hm
  have K : ∀ (H : Heap) (locs : List Loc) (ls : Array Slot), ST g A s H locs (wM g a u6) → lv_has ls 4 [] → W p l e rX6_simplified s m args below meth c H locs 0 0 (kEnd g below args s (some (.int o1)) (wM g a o2) A 0 0) (F0 m 19 ls [.int v5]) := by
    intro H locs ls X hl
    clear hE
    cases sm hm
    exact kiret C X dX6_simplified_19
  clear hm
  have hm := hE
  clear hE
  refine lv_if_ne (tgt := 13) hx hb dX6_simplified_1 (by decide) (fun hc => ?_) (fun hc => ?_)
  · have hm := ifn hc hm
    refine lv_aload_n hx hb dX6_simplified_13 rfl (lv_at hl 0 rfl) ?_
    refine lv_iload_n hx hb dX6_simplified_14 rfl (lv_at hl 1 rfl) ?_
    refine lv_iload_n hx hb dX6_simplified_15 rfl (lv_at hl 2 rfl) ?_
    obtain ⟨⟨r7, u8⟩, hcl, hm⟩ := bnd hm
    refine kVW C X (kX6_fewestPoints l g a p1 p2 u r7 u8 hcl) (cw_X6_simplified_X6_fewestPoints_117 C) 0 (ci := 6) rfl rfl (As := [.int p1, .int p2]) rfl hl (rest := []) rfl (Nat.le_of_ble_eq_true rfl) (st2 := [.int r7]) rfl dX6_simplified_16 ⟨Nat.le_of_ble_eq_true rfl, Nat.le_of_ble_eq_true rfl⟩ (fun H locs X => ?_)
    clear hcl
    cases sm hm
    exact K _ _ _ X (lv_sub hl [] rfl)
  · have hm := ifp hc hm
    refine lv_aload_n hx hb dX6_simplified_4 rfl (lv_at hl 0 rfl) ?_
    refine lv_iload_n hx hb dX6_simplified_5 rfl (lv_at hl 1 rfl) ?_
    refine lv_iload_n hx hb dX6_simplified_6 rfl (lv_at hl 2 rfl) ?_
    obtain ⟨⟨r9, u10⟩, hcl, hm⟩ := bnd hm
    refine kVW C X (kX6_split l g a p1 p2 u r9 u10 hcl) (cw_X6_simplified_X6_split_114 C) 0 (ci := 6) rfl rfl (As := [.int p1, .int p2]) rfl hl (rest := []) rfl (Nat.le_of_ble_eq_true rfl) (st2 := [.int r9]) rfl dX6_simplified_7 ⟨Nat.le_of_ble_eq_true rfl, Nat.le_of_ble_eq_true rfl⟩ (fun H locs X => ?_)
    clear hcl
    refine lv_goto (tgt := 19) hx hb dX6_simplified_10 (by decide) ?_
    cases sm hm
    exact K _ _ _ X (lv_sub hl [] rfl)
