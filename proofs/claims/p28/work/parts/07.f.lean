-- X1 BrushStrokes$Sheet.strokeCount()I
abbrev rX1_strokeCount : Room := { frames := 0, cells := 0, slots := 0, locals := 0 }
theorem fl_X1_strokeCount_34 : (Cond.fieldLink RX1 34 "BrushStrokes$Sheet" "strokeCount" "I") ∈ wsX1_strokeCount := by decide +kernel
theorem in_X1_strokeCount_X1 : ∀ w ∈ u_ws RX1 TX1 6, w ∈ wsX1_strokeCount := by decide +kernel
noncomputable def fX1_strokeCount (u : ShS) : Option (Int32) := some (Sh_strokeCount u)
set_option maxRecDepth 100000 in
set_option maxHeartbeats 4000000 in
theorem kX1_strokeCount (l : Launch) (g : kG) (a : Nat → Nat) (u : ShS) (o1 : Int32) (hm : fX1_strokeCount u = some o1) : KM l yX1_strokeCount wsX1_strokeCount rX1_strokeCount g [.ref (a 0)] (wSh g a u) (some (.int o1)) (wSh g a u) 0 0 := by
  refine KM.of (nL := 1) (by decide) rfl (Nat.le_of_ble_eq_true rfl) ?_
  intro p e s m args below meth c A ls C X hl
  have C : CT g p s m args meth c RX1 cX1_strokeCount 1 (some .int) wsX1_strokeCount A := C
  have hx := C.1
  have hb := C.2.1
  have hl : lv_has ls 1 [(0, .ref (a 0))] := hl
  have hinX1 := in_X1_strokeCount_X1
  have hf34 := C.2.2.2.2.2.1 _ fl_X1_strokeCount_34
  rw [fX1_strokeCount] at hm
  refine lv_aload_n hx hb dX1_strokeCount_0 rfl (lv_at hl 0 rfl) ?_
  refine kget C X 0 (ci := 1) rfl rfl hinX1 3 (by decide) hf34 (v := .int (Sh_strokeCount u)) rfl dX1_strokeCount_1 ?_
  cases sm hm
  exact kiret C X dX1_strokeCount_4
-- X1 BrushStrokes$Sheet.strokeAt(I)LBrushStrokes$Stroke;
abbrev rX1_strokeAt : Room := { frames := 0, cells := 0, slots := 0, locals := 0 }
theorem fl_X1_strokeAt_11 : (Cond.fieldLink RX1 11 "BrushStrokes$Sheet" "strokes" "[LBrushStrokes$Stroke;") ∈ wsX1_strokeAt := by decide +kernel
theorem fl_X1_strokeAt_18 : (Cond.fieldLink RX1 18 "BrushStrokes$Sheet" "nothing" "LBrushStrokes$Stroke;") ∈ wsX1_strokeAt := by decide +kernel
theorem in_X1_strokeAt_X1 : ∀ w ∈ u_ws RX1 TX1 6, w ∈ wsX1_strokeAt := by decide +kernel
noncomputable def fX1_strokeAt (p1 : Int32) (u : ShS) : Option (Nat) := ((if p1 < 0 then (some 4) else (if 4 ≤ p1 then (some 4) else (gd (inb p1 4) (some p1.toNatClampNeg)))) : Option (Nat)).bind fun v1 => some v1
set_option maxRecDepth 100000 in
set_option maxHeartbeats 4000000 in
theorem kX1_strokeAt (l : Launch) (g : kG) (a : Nat → Nat) (p1 : Int32) (u : ShS) (o1 : Nat) (hm : fX1_strokeAt p1 u = some o1) : KM l yX1_strokeAt wsX1_strokeAt rX1_strokeAt g [.ref (a 0), .int p1] (wSh g a u) (some (.ref (a (3 + 2 * o1)))) (wSh g a u) 0 0 := by
  refine KM.of (nL := 3) (by decide) rfl (Nat.le_of_ble_eq_true rfl) ?_
  intro p e s m args below meth c A ls C X hl
  have C : CT g p s m args meth c RX1 cX1_strokeAt 3 (some (.object "BrushStrokes$Stroke")) wsX1_strokeAt A := C
  have hx := C.1
  have hb := C.2.1
  have hl : lv_has ls 3 [(0, .ref (a 0)), (1, .int p1)] := hl
  have hinX1 := in_X1_strokeAt_X1
  have hf11 := C.2.2.2.2.2.1 _ fl_X1_strokeAt_11
  have hf18 := C.2.2.2.2.2.1 _ fl_X1_strokeAt_18
  rw [fX1_strokeAt] at hm
  refine lv_iload_n hx hb dX1_strokeAt_0 rfl (lv_at hl 1 rfl) ?_
  obtain ⟨v1, hE, hm⟩ := bnd hm
  have K : ∀ (H : Heap) (locs : List Loc) (ls : Array Slot), ST g A s H locs (wSh g a u) → lv_has ls 3 [(0, .ref (a 0))] → W p l e rX1_strokeAt s m args below meth c H locs 0 0 (kEnd g below args s (some (.ref (a (3 + 2 * o1)))) (wSh g a u) A 0 0) (F0 m 26 ls [.ref (a (3 + 2 * v1))]) := by
    intro H locs ls X hl
    clear hE
    refine lv_astore_n (lv' := [(2, .ref (a (3 + 2 * v1))), (0, .ref (a 0))]) hx hb dX1_strokeAt_26 rfl hl (by decide) rfl (fun ls hl => ?_)
    refine lv_aload_n hx hb dX1_strokeAt_27 rfl (lv_at hl 0 rfl) ?_
    refine lv_ifnonnull (tgt := 38) hx hb dX1_strokeAt_28 (by decide) ?_
    refine lv_aload_n hx hb dX1_strokeAt_38 rfl (lv_at hl 0 rfl) ?_
    cases sm hm
    exact karet C X dX1_strokeAt_39
  clear hm
  have hm := hE
  clear hE
  refine lv_if_lt (tgt := 22) hx hb dX1_strokeAt_1 (by decide) (fun hc => ?_) (fun hc => ?_)
  · have hm := ifp hc hm
    refine lv_aload_n hx hb dX1_strokeAt_22 rfl (lv_at hl 0 rfl) ?_
    refine kget C X 0 (ci := 1) rfl rfl hinX1 1 (by decide) hf18 (v := .ref (a 11)) rfl dX1_strokeAt_23 ?_
    cases sm hm
    exact K _ _ _ X (lv_sub hl [0] rfl)
  · have hm := ifn hc hm
    refine lv_iload_n hx hb dX1_strokeAt_4 rfl (lv_at hl 1 rfl) ?_
    refine lv_aload_n hx hb dX1_strokeAt_5 rfl (lv_at hl 0 rfl) ?_
    refine kget C X 0 (ci := 1) rfl rfl hinX1 0 (by decide) hf11 (v := .ref (a 1)) rfl dX1_strokeAt_6 ?_
    refine kalenS C X 1 rfl (v := 4) rfl dX1_strokeAt_9 ?_
    refine lv_icmp_ge (tgt := 22) hx hb dX1_strokeAt_10 (by decide) (fun hc => ?_) (fun hc => ?_)
    · have hm := ifp hc hm
      refine lv_aload_n hx hb dX1_strokeAt_22 rfl (lv_at hl 0 rfl) ?_
      refine kget C X 0 (ci := 1) rfl rfl hinX1 1 (by decide) hf18 (v := .ref (a 11)) rfl dX1_strokeAt_23 ?_
      cases sm hm
      exact K _ _ _ X (lv_sub hl [0] rfl)
    · have hm := ifn hc hm
      refine lv_aload_n hx hb dX1_strokeAt_13 rfl (lv_at hl 0 rfl) ?_
      refine kget C X 0 (ci := 1) rfl rfl hinX1 0 (by decide) hf11 (v := .ref (a 1)) rfl dX1_strokeAt_14 ?_
      refine lv_iload_n hx hb dX1_strokeAt_17 rfl (lv_at hl 1 rfl) ?_
      obtain ⟨hgi, hm⟩ := gd_t hm
      refine kaldS C X 1 rfl hgi (v := .ref (a (3 + 2 * p1.toNatClampNeg))) rfl dX1_strokeAt_18 ?_
      refine lv_goto (tgt := 26) hx hb dX1_strokeAt_19 (by decide) ?_
      cases sm hm
      exact K _ _ _ X (lv_sub hl [0] rfl)
-- X1 BrushStrokes$Sheet.value(I)I
abbrev rX1_value : Room := { frames := 1, cells := 0, slots := 0, locals := 21 }
theorem fl_X1_value_31 : (Cond.fieldLink RX1 31 "BrushStrokes$Sheet" "values" "[I") ∈ wsX1_value := by decide +kernel
theorem in_X1_value_X1 : ∀ w ∈ u_ws RX1 TX1 6, w ∈ wsX1_value := by decide +kernel
theorem cw_X1_value_X5_cell_59 {p : Program} {s : State} {m : MethodId} {args : Array Value} {meth : Method} {c : Code} {g : kG} {A : Nat → Prop} (C : CT g p s m args meth c RX1 cX1_value 2 (some .int) wsX1_value A) : va_CN rX1_value s args RX1 59 yX5_cell RX5 cX5_cell 2 (some .int) wsX5_cell rX5_cell 0 0 2 ∧ (Cond.static yX5_cell).before args s = true ∧ True := ⟨va_cnB 2 C.2.2.2.2.2.1 gX1_value_X5_cell_n59 rfl rfl rfl (C.2.2.2.2.2.2.2.1.2.1.1 (RX1, 59, yX5_cell, RX5) (by decide +kernel)) (C.2.2.2.2.2.1 (.initialized RX5) (by decide +kernel)) (by decide +kernel) ⟨Nat.le_of_ble_eq_true rfl, Nat.le_of_ble_eq_true rfl⟩, C.2.2.2.2.2.1 (.static yX5_cell) (by decide +kernel), trivial⟩
noncomputable def fX1_value (p1 : Int32) (u : ShS) : Option (Int32) := (fX5_cell p1 4 (Sh_values u)).bind fun r1 => some r1
set_option maxRecDepth 100000 in
set_option maxHeartbeats 4000000 in
theorem kX1_value (l : Launch) (g : kG) (a : Nat → Nat) (p1 : Int32) (u : ShS) (o1 : Int32) (hm : fX1_value p1 u = some o1) : KM l yX1_value wsX1_value rX1_value g [.ref (a 0), .int p1] (wSh g a u) (some (.int o1)) (wSh g a u) 0 0 := by
  refine KM.of (nL := 2) (by decide) rfl (Nat.le_of_ble_eq_true rfl) ?_
  intro p e s m args below meth c A ls C X hl
  have C : CT g p s m args meth c RX1 cX1_value 2 (some .int) wsX1_value A := C
  have hx := C.1
  have hb := C.2.1
  have hl : lv_has ls 2 [(0, .ref (a 0)), (1, .int p1)] := hl
  have hinX1 := in_X1_value_X1
  have hf31 := C.2.2.2.2.2.1 _ fl_X1_value_31
  rw [fX1_value] at hm
  refine lv_aload_n hx hb dX1_value_0 rfl (lv_at hl 0 rfl) ?_
  refine kget C X 0 (ci := 1) rfl rfl hinX1 2 (by decide) hf31 (v := .ref (a 2)) rfl dX1_value_1 ?_
  refine lv_iload_n hx hb dX1_value_4 rfl (lv_at hl 1 rfl) ?_
  obtain ⟨r1, hcl, hm⟩ := bnd hm
  refine kNF [2] [0, 1, 3, 4, 5, 6, 7, 8, 9, 10, 11, 12] C X (kX5_cell l g (fun _ => a 2) p1 4 (Sh_values u) r1 hcl) (cw_X1_value_X5_cell_59 C) rfl (by decide) rfl (by decide) (by decide) (As := [.ref (a 2), .int p1]) rfl hl (rest := []) rfl (Nat.le_of_ble_eq_true rfl) (st2 := [.int r1]) rfl dX1_value_5 ⟨Nat.le_of_ble_eq_true rfl, Nat.le_of_ble_eq_true rfl⟩ [0, 1, 12, 2, 3, 4, 5, 6, 7, 8, 9, 10, 11] (by decide) (w3 := wSh g a u) rfl (fun H locs X => ?_)
  clear hcl
  cases sm hm
  exact kiret C X dX1_value_8
-- X1 BrushStrokes$Sheet.putValue(II)V
abbrev rX1_putValue : Room := { frames := 1, cells := 0, slots := 0, locals := 22 }
theorem fl_X1_putValue_31 : (Cond.fieldLink RX1 31 "BrushStrokes$Sheet" "values" "[I") ∈ wsX1_putValue := by decide +kernel
theorem in_X1_putValue_X1 : ∀ w ∈ u_ws RX1 TX1 6, w ∈ wsX1_putValue := by decide +kernel
theorem cw_X1_putValue_X5_putCell_63 {p : Program} {s : State} {m : MethodId} {args : Array Value} {meth : Method} {c : Code} {g : kG} {A : Nat → Prop} (C : CT g p s m args meth c RX1 cX1_putValue 3 none wsX1_putValue A) : va_CN rX1_putValue s args RX1 63 yX5_putCell RX5 cX5_putCell 3 none wsX5_putCell rX5_putCell 0 0 3 ∧ (Cond.static yX5_putCell).before args s = true ∧ True := ⟨va_cnB 3 C.2.2.2.2.2.1 gX1_putValue_X5_putCell_n63 rfl rfl rfl (C.2.2.2.2.2.2.2.1.2.1.1 (RX1, 63, yX5_putCell, RX5) (by decide +kernel)) (C.2.2.2.2.2.1 (.initialized RX5) (by decide +kernel)) (by decide +kernel) ⟨Nat.le_of_ble_eq_true rfl, Nat.le_of_ble_eq_true rfl⟩, C.2.2.2.2.2.1 (.static yX5_putCell) (by decide +kernel), trivial⟩
noncomputable def fX1_putValue (p1 : Int32) (p2 : Int32) (u : ShS) : Option (ShS) := (fX5_putCell p1 p2 4 (Sh_values u)).bind fun u1 => some (Sh_s_values u u1)
set_option maxRecDepth 100000 in
set_option maxHeartbeats 4000000 in
theorem kX1_putValue (l : Launch) (g : kG) (a : Nat → Nat) (p1 : Int32) (p2 : Int32) (u : ShS) (o1 : ShS) (hm : fX1_putValue p1 p2 u = some o1) : KM l yX1_putValue wsX1_putValue rX1_putValue g [.ref (a 0), .int p1, .int p2] (wSh g a u) none (wSh g a o1) 0 0 := by
  refine KM.of (nL := 3) (by decide) rfl (Nat.le_of_ble_eq_true rfl) ?_
  intro p e s m args below meth c A ls C X hl
  have C : CT g p s m args meth c RX1 cX1_putValue 3 none wsX1_putValue A := C
  have hx := C.1
  have hb := C.2.1
  have hl : lv_has ls 3 [(0, .ref (a 0)), (1, .int p1), (2, .int p2)] := hl
  have hinX1 := in_X1_putValue_X1
  have hf31 := C.2.2.2.2.2.1 _ fl_X1_putValue_31
  rw [fX1_putValue] at hm
  refine lv_aload_n hx hb dX1_putValue_0 rfl (lv_at hl 0 rfl) ?_
  refine kget C X 0 (ci := 1) rfl rfl hinX1 2 (by decide) hf31 (v := .ref (a 2)) rfl dX1_putValue_1 ?_
  refine lv_iload_n hx hb dX1_putValue_4 rfl (lv_at hl 1 rfl) ?_
  refine lv_iload_n hx hb dX1_putValue_5 rfl (lv_at hl 2 rfl) ?_
  obtain ⟨u1, hcl, hm⟩ := bnd hm
  refine kNF [2] [0, 1, 3, 4, 5, 6, 7, 8, 9, 10, 11, 12] C X (kX5_putCell l g (fun _ => a 2) p1 p2 4 (Sh_values u) u1 hcl) (cw_X1_putValue_X5_putCell_63 C) rfl (by decide) rfl (by decide) (by decide) (As := [.ref (a 2), .int p1, .int p2]) rfl hl (rest := []) rfl (Nat.le_of_ble_eq_true rfl) (st2 := []) rfl dX1_putValue_6 ⟨Nat.le_of_ble_eq_true rfl, Nat.le_of_ble_eq_true rfl⟩ [0, 1, 12, 2, 3, 4, 5, 6, 7, 8, 9, 10, 11] (by decide) (w3 := wSh g a (Sh_s_values u u1)) rfl (fun H locs X => ?_)
  clear hcl
  cases sm hm
  exact kvret C X dX1_putValue_9
-- X1 BrushStrokes$Sheet.noteSimplified(I)V
abbrev rX1_noteSimplified : Room := { frames := 0, cells := 0, slots := 0, locals := 0 }
theorem fl_X1_noteSimplified_50 : (Cond.fieldLink RX1 50 "BrushStrokes$Sheet" "simplified" "I") ∈ wsX1_noteSimplified := by decide +kernel
theorem fl_X1_noteSimplified_53 : (Cond.fieldLink RX1 53 "BrushStrokes$Sheet" "dropped" "I") ∈ wsX1_noteSimplified := by decide +kernel
theorem in_X1_noteSimplified_X1 : ∀ w ∈ u_ws RX1 TX1 6, w ∈ wsX1_noteSimplified := by decide +kernel
noncomputable def fX1_noteSimplified (p1 : Int32) (u : ShS) : Option (ShS) := lt (Sh_s_simplified u ((Sh_simplified u) + 1)) fun u1 => lt (Sh_s_dropped u1 ((Sh_dropped u1) + p1)) fun u2 => some u2
set_option maxRecDepth 100000 in
set_option maxHeartbeats 4000000 in
theorem kX1_noteSimplified (l : Launch) (g : kG) (a : Nat → Nat) (p1 : Int32) (u : ShS) (o1 : ShS) (hm : fX1_noteSimplified p1 u = some o1) : KM l yX1_noteSimplified wsX1_noteSimplified rX1_noteSimplified g [.ref (a 0), .int p1] (wSh g a u) none (wSh g a o1) 0 0 := by
  refine KM.of (nL := 2) (by decide) rfl (Nat.le_of_ble_eq_true rfl) ?_
  intro p e s m args below meth c A ls C X hl
  have C : CT g p s m args meth c RX1 cX1_noteSimplified 2 none wsX1_noteSimplified A := C
  have hx := C.1
  have hb := C.2.1
  have hl : lv_has ls 2 [(0, .ref (a 0)), (1, .int p1)] := hl
  have hinX1 := in_X1_noteSimplified_X1
  have hf50 := C.2.2.2.2.2.1 _ fl_X1_noteSimplified_50
  have hf53 := C.2.2.2.2.2.1 _ fl_X1_noteSimplified_53
  rw [fX1_noteSimplified] at hm
  refine lv_aload_n hx hb dX1_noteSimplified_0 rfl (lv_at hl 0 rfl) ?_
  refine lv_dup hx hb dX1_noteSimplified_1 rfl ?_
  refine kget C X 0 (ci := 1) rfl rfl hinX1 4 (by decide) hf50 (v := .int (Sh_simplified u)) rfl dX1_noteSimplified_2 ?_
  refine lv_iconst (v := 1) hx hb dX1_noteSimplified_5 (by decide) ?_
  refine lv_iadd hx hb dX1_noteSimplified_6 ?_
  obtain ⟨u1, eu⟩ : ∃ z, z = Sh_s_simplified u ((Sh_simplified u) + 1) := ⟨_, rfl⟩
  have hm := lt_t eu hm
  refine kput C X 0 (ci := 1) rfl rfl hinX1 tyX1_ok nmX1 4 (by decide) hf50 rfl (ty := .int) (v := .int ((Sh_simplified u) + 1)) rfl rfl rfl (Nat.le_of_ble_eq_true rfl) (w2 := wSh g a u1) (by subst eu; rfl) dX1_noteSimplified_7 (fun H locs X => ?_)
  clear eu
  refine lv_aload_n hx hb dX1_noteSimplified_10 rfl (lv_at hl 0 rfl) ?_
  refine lv_dup hx hb dX1_noteSimplified_11 rfl ?_
  refine kget C X 0 (ci := 1) rfl rfl hinX1 5 (by decide) hf53 (v := .int (Sh_dropped u1)) rfl dX1_noteSimplified_12 ?_
  refine lv_iload_n hx hb dX1_noteSimplified_15 rfl (lv_at hl 1 rfl) ?_
  refine lv_iadd hx hb dX1_noteSimplified_16 ?_
  obtain ⟨u2, eu⟩ : ∃ z, z = Sh_s_dropped u1 ((Sh_dropped u1) + p1) := ⟨_, rfl⟩
  have hm := lt_t eu hm
  refine kput C X 0 (ci := 1) rfl rfl hinX1 tyX1_ok nmX1 5 (by decide) hf53 rfl (ty := .int) (v := .int ((Sh_dropped u1) + p1)) rfl rfl rfl (Nat.le_of_ble_eq_true rfl) (w2 := wSh g a u2) (by subst eu; rfl) dX1_noteSimplified_17 (fun H locs X => ?_)
  clear eu
  cases sm hm
  exact kvret C X dX1_noteSimplified_20
-- X1 BrushStrokes$Sheet.openStroke()LBrushStrokes$Stroke;
abbrev rX1_openStroke : Room := { frames := 1, cells := 0, slots := 0, locals := 22 }
theorem fl_X1_openStroke_34 : (Cond.fieldLink RX1 34 "BrushStrokes$Sheet" "strokeCount" "I") ∈ wsX1_openStroke := by decide +kernel
theorem in_X1_openStroke_X1 : ∀ w ∈ u_ws RX1 TX1 6, w ∈ wsX1_openStroke := by decide +kernel
theorem cw_X1_openStroke_X3_removeAll_56 {p : Program} {s : State} {m : MethodId} {args : Array Value} {meth : Method} {c : Code} {g : kG} {A : Nat → Prop} (C : CT g p s m args meth c RX1 cX1_openStroke 2 (some (.object "BrushStrokes$Stroke")) wsX1_openStroke A) : CallW rX1_openStroke s args RX1 RX3 56 yX3_removeAll cX3_removeAll 1 none wsX3_removeAll rX3_removeAll 0 0 0 := cwV 0 C.2.2.2.2.2.1 gX1_openStroke_X3_removeAll rfl rfl rfl (by decide +kernel) ⟨Nat.le_of_ble_eq_true rfl, Nat.le_of_ble_eq_true rfl⟩
theorem cw_X1_openStroke_X1_strokeAt_38 {p : Program} {s : State} {m : MethodId} {args : Array Value} {meth : Method} {c : Code} {g : kG} {A : Nat → Prop} (C : CT g p s m args meth c RX1 cX1_openStroke 2 (some (.object "BrushStrokes$Stroke")) wsX1_openStroke A) : CallW rX1_openStroke s args RX1 RX1 38 yX1_strokeAt cX1_strokeAt 3 (some (.object "BrushStrokes$Stroke")) wsX1_strokeAt rX1_strokeAt 0 0 1 := cwV 1 C.2.2.2.2.2.1 gX1_openStroke_X1_strokeAt rfl rfl rfl (by decide +kernel) ⟨Nat.le_of_ble_eq_true rfl, Nat.le_of_ble_eq_true rfl⟩
noncomputable def fX1_openStroke (u : ShS) : Option (Nat × ShS) := (fX1_strokeAt (Sh_strokeCount u) u).bind fun q1 => gd (decide (q1 < 5)) ((fX3_removeAll (Sh_st u q1)).bind fun s2 => lt (Sh_s_st u q1 s2) fun u3 => lt (Sh_s_strokeCount u3 ((Sh_strokeCount u3) + 1)) fun u4 => some (q1, u4))
set_option maxRecDepth 100000 in
set_option maxHeartbeats 4000000 in
theorem kX1_openStroke (l : Launch) (g : kG) (a : Nat → Nat) (u : ShS) (o1 : Nat) (o2 : ShS) (hm : fX1_openStroke u = some (o1, o2)) : KM l yX1_openStroke wsX1_openStroke rX1_openStroke g [.ref (a 0)] (wSh g a u) (some (.ref (a (3 + 2 * o1)))) (wSh g a o2) 0 0 := by
  refine KM.of (nL := 2) (by decide) rfl (Nat.le_of_ble_eq_true rfl) ?_
  intro p e s m args below meth c A ls C X hl
  have C : CT g p s m args meth c RX1 cX1_openStroke 2 (some (.object "BrushStrokes$Stroke")) wsX1_openStroke A := C
  have hx := C.1
  have hb := C.2.1
  have hl : lv_has ls 2 [(0, .ref (a 0))] := hl
  have hinX1 := in_X1_openStroke_X1
  have hf34 := C.2.2.2.2.2.1 _ fl_X1_openStroke_34
  rw [fX1_openStroke] at hm
  refine lv_aload_n hx hb dX1_openStroke_0 rfl (lv_at hl 0 rfl) ?_
  refine lv_aload_n hx hb dX1_openStroke_1 rfl (lv_at hl 0 rfl) ?_
  refine kget C X 0 (ci := 1) rfl rfl hinX1 3 (by decide) hf34 (v := .int (Sh_strokeCount u)) rfl dX1_openStroke_2 ?_
  obtain ⟨q1, hcl, hm⟩ := bnd hm
  refine kVW C X (kX1_strokeAt l g a (Sh_strokeCount u) u q1 hcl) (cw_X1_openStroke_X1_strokeAt_38 C) 0 (ci := 1) rfl rfl (As := [.int (Sh_strokeCount u)]) rfl hl (rest := []) rfl (Nat.le_of_ble_eq_true rfl) (st2 := [.ref (a (3 + 2 * q1))]) rfl dX1_openStroke_5 ⟨Nat.le_of_ble_eq_true rfl, Nat.le_of_ble_eq_true rfl⟩ (fun H locs X => ?_)
  clear hcl
  refine lv_astore_n (lv' := [(1, .ref (a (3 + 2 * q1))), (0, .ref (a 0))]) hx hb dX1_openStroke_8 rfl hl (by decide) rfl (fun ls hl => ?_)
  refine lv_aload_n hx hb dX1_openStroke_9 rfl (lv_at hl 0 rfl) ?_
  obtain ⟨hgk, hm⟩ := gd_t hm
  have hgk := of_decide_eq_true hgk
  obtain ⟨s2, hcl, hm⟩ := bnd hm
  refine kVp _ (wSh_out hgk) C X (kX3_removeAll l g (sa a q1) (Sh_st u q1) s2 hcl) (cw_X1_openStroke_X3_removeAll_56 C) 0 (ci := 3) rfl rfl (As := []) rfl hl (rest := []) rfl (Nat.le_of_ble_eq_true rfl) (st2 := []) rfl dX1_openStroke_10 ⟨Nat.le_of_ble_eq_true rfl, Nat.le_of_ble_eq_true rfl⟩ (w3 := wSh g a (Sh_s_st u q1 s2)) (wSh_in hgk s2) (fun H locs X => ?_)
  clear hcl
  obtain ⟨u3, eu⟩ : ∃ z, z = Sh_s_st u q1 s2 := ⟨_, rfl⟩
  have hm := lt_t eu hm
  rw [← eu] at X
  clear eu
  refine lv_aload_n hx hb dX1_openStroke_13 rfl (lv_at hl 1 rfl) ?_
  refine lv_dup hx hb dX1_openStroke_14 rfl ?_
  refine kget C X 0 (ci := 1) rfl rfl hinX1 3 (by decide) hf34 (v := .int (Sh_strokeCount u3)) rfl dX1_openStroke_15 ?_
  refine lv_iconst (v := 1) hx hb dX1_openStroke_18 (by decide) ?_
  refine lv_iadd hx hb dX1_openStroke_19 ?_
  obtain ⟨u4, eu⟩ : ∃ z, z = Sh_s_strokeCount u3 ((Sh_strokeCount u3) + 1) := ⟨_, rfl⟩
  have hm := lt_t eu hm
  refine kput C X 0 (ci := 1) rfl rfl hinX1 tyX1_ok nmX1 3 (by decide) hf34 rfl (ty := .int) (v := .int ((Sh_strokeCount u3) + 1)) rfl rfl rfl (Nat.le_of_ble_eq_true rfl) (w2 := wSh g a u4) (by subst eu; rfl) dX1_openStroke_20 (fun H locs X => ?_)
  clear eu
  refine lv_aload_n hx hb dX1_openStroke_23 rfl (lv_at hl 0 rfl) ?_
  cases sm hm
  exact karet C X dX1_openStroke_24
-- X1 BrushStrokes$Sheet.fixedPoints(LBrushStrokes$Stroke;)I
abbrev rX1_fixedPoints : Room := { frames := 4, cells := 0, slots := 0, locals := 99 }
theorem cw_X1_fixedPoints_X1_value_71 {p : Program} {s : State} {m : MethodId} {args : Array Value} {meth : Method} {c : Code} {g : kG} {A : Nat → Prop} (C : CT g p s m args meth c RX1 cX1_fixedPoints 4 (some .int) wsX1_fixedPoints A) : CallW rX1_fixedPoints s args RX1 RX1 71 yX1_value cX1_value 2 (some .int) wsX1_value rX1_value 0 0 1 := cwV 1 C.2.2.2.2.2.1 gX1_fixedPoints_X1_value rfl rfl rfl (by decide +kernel) ⟨Nat.le_of_ble_eq_true rfl, Nat.le_of_ble_eq_true rfl⟩
theorem cw_X1_fixedPoints_X3_kind_75 {p : Program} {s : State} {m : MethodId} {args : Array Value} {meth : Method} {c : Code} {g : kG} {A : Nat → Prop} (C : CT g p s m args meth c RX1 cX1_fixedPoints 4 (some .int) wsX1_fixedPoints A) : CallW rX1_fixedPoints s args RX1 RX3 75 yX3_kind cX3_kind 4 (some .int) wsX3_kind rX3_kind 0 0 3 := cwV 3 C.2.2.2.2.2.1 gX1_fixedPoints_X3_kind rfl rfl rfl (by decide +kernel) ⟨Nat.le_of_ble_eq_true rfl, Nat.le_of_ble_eq_true rfl⟩
theorem cw_X1_fixedPoints_X3_size_67 {p : Program} {s : State} {m : MethodId} {args : Array Value} {meth : Method} {c : Code} {g : kG} {A : Nat → Prop} (C : CT g p s m args meth c RX1 cX1_fixedPoints 4 (some .int) wsX1_fixedPoints A) : CallW rX1_fixedPoints s args RX1 RX3 67 yX3_size cX3_size 1 (some .int) wsX3_size rX3_size 0 0 0 := cwV 0 C.2.2.2.2.2.1 gX1_fixedPoints_X3_size rfl rfl rfl (by decide +kernel) ⟨Nat.le_of_ble_eq_true rfl, Nat.le_of_ble_eq_true rfl⟩
noncomputable def bX1_fixedPoints_4 (c1 : Nat) (w4 : ShS) : Int32 × Int32 → Option ((Int32 × Int32) ⊕ (Int32))
  | (x2, x3) => gd (decide (c1 < 5)) ((fX3_size (Sh_st w4 c1)).bind fun r6 => if r6 ≤ x3 then (some (.inr x2)) else ((fX1_value 1 w4).bind fun r7 => (fX1_value 2 w4).bind fun r8 => gd (decide (c1 < 5)) ((fX3_kind x3 r7 r8 (Sh_st w4 c1)).bind fun r9 => ((if r9 = 0 then (some x2) else (some (x2 ||| (1 <<< (x3 &&& 31))))) : Option (Int32)).bind fun v10 => some (.inl (v10, x3 + 1)))))
noncomputable def lX1_fixedPoints_4 (c1 : Nat) (w4 : ShS) (x2 : Int32) (x3 : Int32) : Option (Int32) := lp (bX1_fixedPoints_4 c1 w4) (x2, x3)
theorem lX1_fixedPoints_4_eq (c1 : Nat) (w4 : ShS) (x2 : Int32) (x3 : Int32) : lX1_fixedPoints_4 c1 w4 x2 x3 = (gd (decide (c1 < 5)) ((fX3_size (Sh_st w4 c1)).bind fun r6 => if r6 ≤ x3 then (some (.inr x2)) else ((fX1_value 1 w4).bind fun r7 => (fX1_value 2 w4).bind fun r8 => gd (decide (c1 < 5)) ((fX3_kind x3 r7 r8 (Sh_st w4 c1)).bind fun r9 => ((if r9 = 0 then (some x2) else (some (x2 ||| (1 <<< (x3 &&& 31))))) : Option (Int32)).bind fun v10 => some (.inl (v10, x3 + 1)))))).bind fun r => Sum.elim (fun z => lX1_fixedPoints_4 c1 w4 z.1 z.2) (fun r => some r) r := lp_eq (bX1_fixedPoints_4 c1 w4) (x2, x3)
set_option maxRecDepth 100000 in
set_option maxHeartbeats 4000000 in
theorem tX1_fixedPoints_4 {p : Program} {l : Launch} {e : Env} {s : State} {m : MethodId} {args : Array Value} {below : List Frame} {meth : Method} {c : Code} {g : kG} {A : Nat → Prop} {Q : State → Prop} (a : Nat → Nat) (C : CT g p s m args meth c RX1 cX1_fixedPoints 4 (some .int) wsX1_fixedPoints A) (c1 : Nat) (w4 : ShS) (y5 : Int32) (kk : ∀ (H : Heap) (locs : List Loc) (ls : Array Slot), ST g A s H locs (wSh g a w4) → lv_has ls 4 [(2, .int y5)] → W p l e rX1_fixedPoints s m args below meth c H locs 0 0 Q (F0 m 42 ls [])) : ∀ (n : Nat) (x2 : Int32) (x3 : Int32), whl (bX1_fixedPoints_4 c1 w4) n (x2, x3) = some y5 → ∀ (H : Heap) (locs : List Loc) (ls : Array Slot), ST g A s H locs (wSh g a w4) → lv_has ls 4 [(0, .ref (a 0)), (1, .ref (a (3 + 2 * c1))), (2, .int x2), (3, .int x3)] → W p l e rX1_fixedPoints s m args below meth c H locs 0 0 Q (F0 m 4 ls []) := by
  have hx := C.1
  have hb := C.2.1
  intro n
  induction n with
  | zero =>
    intro x2 x3 hm
    cases hm
  | succ n ih =>
    intro x2 x3 hm H locs ls X hl
    rw [whl] at hm
    obtain ⟨q, hq, hm2⟩ := bnd hm
    clear hm
    have hm := hq
    clear hq
    rw [bX1_fixedPoints_4] at hm
    refine lv_iload_n hx hb dX1_fixedPoints_4 rfl (lv_at hl 3 rfl) ?_
    refine lv_aload_n hx hb dX1_fixedPoints_5 rfl (lv_at hl 1 rfl) ?_
    obtain ⟨hgk, hm⟩ := gd_t hm
    have hgk := of_decide_eq_true hgk
    obtain ⟨r6, hcl, hm⟩ := bnd hm
    refine kVp _ (wSh_out hgk) C X (kX3_size l g (sa a c1) (Sh_st w4 c1) r6 hcl) (cw_X1_fixedPoints_X3_size_67 C) 0 (ci := 3) rfl rfl (As := []) rfl hl (rest := [.int x3]) rfl (Nat.le_of_ble_eq_true rfl) (st2 := [.int r6, .int x3]) rfl dX1_fixedPoints_6 ⟨Nat.le_of_ble_eq_true rfl, Nat.le_of_ble_eq_true rfl⟩ (w3 := wSh g a w4) (wSh_in0 hgk) (fun H locs X => ?_)
    clear hcl
    refine lv_icmp_ge (tgt := 42) hx hb dX1_fixedPoints_9 (by decide) (fun hc => ?_) (fun hc => ?_)
    · have hm := ifp hc hm
      cases sm hm
      cases sm hm2
      exact kk _ _ _ X (lv_sub hl [2] rfl)
    · have hm := ifn hc hm
      refine lv_aload_n hx hb dX1_fixedPoints_12 rfl (lv_at hl 1 rfl) ?_
      refine lv_iload_n hx hb dX1_fixedPoints_13 rfl (lv_at hl 3 rfl) ?_
      refine lv_aload_n hx hb dX1_fixedPoints_14 rfl (lv_at hl 0 rfl) ?_
      refine lv_iconst (v := 1) hx hb dX1_fixedPoints_15 (by decide) ?_
      obtain ⟨r7, hcl, hm⟩ := bnd hm
      refine kVW C X (kX1_value l g a 1 w4 r7 hcl) (cw_X1_fixedPoints_X1_value_71 C) 0 (ci := 1) rfl rfl (As := [.int 1]) rfl hl (rest := [.int x3, .ref (a (3 + 2 * c1))]) rfl (Nat.le_of_ble_eq_true rfl) (st2 := [.int r7, .int x3, .ref (a (3 + 2 * c1))]) rfl dX1_fixedPoints_16 ⟨Nat.le_of_ble_eq_true rfl, Nat.le_of_ble_eq_true rfl⟩ (fun H locs X => ?_)
      clear hcl
      refine lv_aload_n hx hb dX1_fixedPoints_19 rfl (lv_at hl 0 rfl) ?_
      refine lv_iconst (v := 2) hx hb dX1_fixedPoints_20 (by decide) ?_
      obtain ⟨r8, hcl, hm⟩ := bnd hm
      refine kVW C X (kX1_value l g a 2 w4 r8 hcl) (cw_X1_fixedPoints_X1_value_71 C) 0 (ci := 1) rfl rfl (As := [.int 2]) rfl hl (rest := [.int r7, .int x3, .ref (a (3 + 2 * c1))]) rfl (Nat.le_of_ble_eq_true rfl) (st2 := [.int r8, .int r7, .int x3, .ref (a (3 + 2 * c1))]) rfl dX1_fixedPoints_21 ⟨Nat.le_of_ble_eq_true rfl, Nat.le_of_ble_eq_true rfl⟩ (fun H locs X => ?_)
      clear hcl
      obtain ⟨hgk, hm⟩ := gd_t hm
      have hgk := of_decide_eq_true hgk
      obtain ⟨r9, hcl, hm⟩ := bnd hm
      refine kVp _ (wSh_out hgk) C X (kX3_kind l g (sa a c1) x3 r7 r8 (Sh_st w4 c1) r9 hcl) (cw_X1_fixedPoints_X3_kind_75 C) 0 (ci := 3) rfl rfl (As := [.int x3, .int r7, .int r8]) rfl hl (rest := []) rfl (Nat.le_of_ble_eq_true rfl) (st2 := [.int r9]) rfl dX1_fixedPoints_24 ⟨Nat.le_of_ble_eq_true rfl, Nat.le_of_ble_eq_true rfl⟩ (w3 := wSh g a w4) (wSh_in0 hgk) (fun H locs X => ?_)
      clear hcl
      obtain ⟨v10, hE, hm⟩ := bnd hm
      have K : ∀ (H : Heap) (locs : List Loc) (ls : Array Slot), ST g A s H locs (wSh g a w4) → lv_has ls 4 [(0, .ref (a 0)), (1, .ref (a (3 + 2 * c1))), (2, .int v10), (3, .int x3)] → W p l e rX1_fixedPoints s m args below meth c H locs 0 0 Q (F0 m 36 ls []) := by
        intro H locs ls X hl
        clear hE
        refine lv_iinc (v := x3 + 1) (lv' := [(3, .int (x3 + 1)), (0, .ref (a 0)), (1, .ref (a (3 + 2 * c1))), (2, .int v10)]) hx hb dX1_fixedPoints_36 hl (k := 3) rfl rfl (by decide) rfl (fun ls hl => ?_)
        refine lv_goto (tgt := 4) hx hb dX1_fixedPoints_39 (by decide) ?_
        cases sm hm
        exact ih _ _ hm2 _ _ _ X (lv_sub hl [1, 2, 3, 0] rfl)
      clear hm
      have hm := hE
      clear hE
      refine lv_if_eq (tgt := 36) hx hb dX1_fixedPoints_27 (by decide) (fun hc => ?_) (fun hc => ?_)
      · have hm := ifp hc hm
        cases sm hm
        exact K _ _ _ X (lv_sub hl [0, 1, 2, 3] rfl)
      · have hm := ifn hc hm
        refine lv_iload_n hx hb dX1_fixedPoints_30 rfl (lv_at hl 2 rfl) ?_
        refine lv_iconst (v := 1) hx hb dX1_fixedPoints_31 (by decide) ?_
        refine lv_iload_n hx hb dX1_fixedPoints_32 rfl (lv_at hl 3 rfl) ?_
        refine lv_ishl hx hb dX1_fixedPoints_33 ?_
        refine lv_ior hx hb dX1_fixedPoints_34 ?_
        refine lv_istore_n (lv' := [(2, .int (x2 ||| (1 <<< (x3 &&& 31)))), (0, .ref (a 0)), (1, .ref (a (3 + 2 * c1))), (3, .int x3)]) hx hb dX1_fixedPoints_35 rfl hl (by decide) rfl (fun ls hl => ?_)
        cases sm hm
        exact K _ _ _ X (lv_sub hl [1, 2, 0, 3] rfl)
noncomputable def fX1_fixedPoints (i1 : Nat) (u : ShS) : Option (Int32) := (lX1_fixedPoints_4 i1 u 0 0).bind fun y11 => some y11
set_option maxRecDepth 100000 in
set_option maxHeartbeats 4000000 in
theorem kX1_fixedPoints (l : Launch) (g : kG) (a : Nat → Nat) (i1 : Nat) (u : ShS) (o1 : Int32) (hm : fX1_fixedPoints i1 u = some o1) : KM l yX1_fixedPoints wsX1_fixedPoints rX1_fixedPoints g [.ref (a 0), .ref (a (3 + 2 * i1))] (wSh g a u) (some (.int o1)) (wSh g a u) 0 0 := by
  refine KM.of (nL := 4) (by decide) rfl (Nat.le_of_ble_eq_true rfl) ?_
  intro p e s m args below meth c A ls C X hl
  have C : CT g p s m args meth c RX1 cX1_fixedPoints 4 (some .int) wsX1_fixedPoints A := C
  have hx := C.1
  have hb := C.2.1
  have hl : lv_has ls 4 [(0, .ref (a 0)), (1, .ref (a (3 + 2 * i1)))] := hl
  rw [fX1_fixedPoints] at hm
  refine lv_iconst (v := 0) hx hb dX1_fixedPoints_0 (by decide) ?_
  refine lv_istore_n (lv' := [(2, .int 0), (0, .ref (a 0)), (1, .ref (a (3 + 2 * i1)))]) hx hb dX1_fixedPoints_1 rfl hl (by decide) rfl (fun ls hl => ?_)
  refine lv_iconst (v := 0) hx hb dX1_fixedPoints_2 (by decide) ?_
  refine lv_istore_n (lv' := [(3, .int 0), (2, .int 0), (0, .ref (a 0)), (1, .ref (a (3 + 2 * i1)))]) hx hb dX1_fixedPoints_3 rfl hl (by decide) rfl (fun ls hl => ?_)
  obtain ⟨y11, hL, hm⟩ := bnd hm
  obtain ⟨nn, hn⟩ := lp_run hL
  refine tX1_fixedPoints_4 a C i1 u y11 (fun H locs ls X hl => ?_) nn _ _ hn _ _ _ X (lv_sub hl [2, 3, 1, 0] rfl)
  clear hL hn
  refine lv_iload_n hx hb dX1_fixedPoints_42 rfl (lv_at hl 0 rfl) ?_
  cases sm hm
  exact kiret C X dX1_fixedPoints_43
-- X1 BrushStrokes$Sheet.countKind(LBrushStrokes$Stroke;I)I
abbrev rX1_countKind : Room := { frames := 4, cells := 0, slots := 0, locals := 99 }
theorem cw_X1_countKind_X1_value_71 {p : Program} {s : State} {m : MethodId} {args : Array Value} {meth : Method} {c : Code} {g : kG} {A : Nat → Prop} (C : CT g p s m args meth c RX1 cX1_countKind 5 (some .int) wsX1_countKind A) : CallW rX1_countKind s args RX1 RX1 71 yX1_value cX1_value 2 (some .int) wsX1_value rX1_value 0 0 1 := cwV 1 C.2.2.2.2.2.1 gX1_countKind_X1_value rfl rfl rfl (by decide +kernel) ⟨Nat.le_of_ble_eq_true rfl, Nat.le_of_ble_eq_true rfl⟩
theorem cw_X1_countKind_X3_kind_75 {p : Program} {s : State} {m : MethodId} {args : Array Value} {meth : Method} {c : Code} {g : kG} {A : Nat → Prop} (C : CT g p s m args meth c RX1 cX1_countKind 5 (some .int) wsX1_countKind A) : CallW rX1_countKind s args RX1 RX3 75 yX3_kind cX3_kind 4 (some .int) wsX3_kind rX3_kind 0 0 3 := cwV 3 C.2.2.2.2.2.1 gX1_countKind_X3_kind rfl rfl rfl (by decide +kernel) ⟨Nat.le_of_ble_eq_true rfl, Nat.le_of_ble_eq_true rfl⟩
theorem cw_X1_countKind_X3_size_67 {p : Program} {s : State} {m : MethodId} {args : Array Value} {meth : Method} {c : Code} {g : kG} {A : Nat → Prop} (C : CT g p s m args meth c RX1 cX1_countKind 5 (some .int) wsX1_countKind A) : CallW rX1_countKind s args RX1 RX3 67 yX3_size cX3_size 1 (some .int) wsX3_size rX3_size 0 0 0 := cwV 0 C.2.2.2.2.2.1 gX1_countKind_X3_size rfl rfl rfl (by decide +kernel) ⟨Nat.le_of_ble_eq_true rfl, Nat.le_of_ble_eq_true rfl⟩
noncomputable def bX1_countKind_5 (c1 : Nat) (c2 : Int32) (w5 : ShS) : Int32 × Int32 → Option ((Int32 × Int32) ⊕ (Int32))
  | (x3, x4) => gd (decide (c1 < 5)) ((fX3_size (Sh_st w5 c1)).bind fun r7 => if r7 ≤ x4 then (some (.inr x3)) else ((fX1_value 1 w5).bind fun r8 => (fX1_value 2 w5).bind fun r9 => gd (decide (c1 < 5)) ((fX3_kind x4 r8 r9 (Sh_st w5 c1)).bind fun r10 => ((if (r10 &&& c2) = 0 then (some x3) else (some (x3 + 1))) : Option (Int32)).bind fun v11 => some (.inl (v11, x4 + 1)))))
noncomputable def lX1_countKind_5 (c1 : Nat) (c2 : Int32) (w5 : ShS) (x3 : Int32) (x4 : Int32) : Option (Int32) := lp (bX1_countKind_5 c1 c2 w5) (x3, x4)
theorem lX1_countKind_5_eq (c1 : Nat) (c2 : Int32) (w5 : ShS) (x3 : Int32) (x4 : Int32) : lX1_countKind_5 c1 c2 w5 x3 x4 = (gd (decide (c1 < 5)) ((fX3_size (Sh_st w5 c1)).bind fun r7 => if r7 ≤ x4 then (some (.inr x3)) else ((fX1_value 1 w5).bind fun r8 => (fX1_value 2 w5).bind fun r9 => gd (decide (c1 < 5)) ((fX3_kind x4 r8 r9 (Sh_st w5 c1)).bind fun r10 => ((if (r10 &&& c2) = 0 then (some x3) else (some (x3 + 1))) : Option (Int32)).bind fun v11 => some (.inl (v11, x4 + 1)))))).bind fun r => Sum.elim (fun z => lX1_countKind_5 c1 c2 w5 z.1 z.2) (fun r => some r) r := lp_eq (bX1_countKind_5 c1 c2 w5) (x3, x4)
set_option maxRecDepth 100000 in
set_option maxHeartbeats 4000000 in
theorem tX1_countKind_5 {p : Program} {l : Launch} {e : Env} {s : State} {m : MethodId} {args : Array Value} {below : List Frame} {meth : Method} {c : Code} {g : kG} {A : Nat → Prop} {Q : State → Prop} (a : Nat → Nat) (C : CT g p s m args meth c RX1 cX1_countKind 5 (some .int) wsX1_countKind A) (c1 : Nat) (c2 : Int32) (w5 : ShS) (y6 : Int32) (kk : ∀ (H : Heap) (locs : List Loc) (ls : Array Slot), ST g A s H locs (wSh g a w5) → lv_has ls 5 [(3, .int y6)] → W p l e rX1_countKind s m args below meth c H locs 0 0 Q (F0 m 44 ls [])) : ∀ (n : Nat) (x3 : Int32) (x4 : Int32), whl (bX1_countKind_5 c1 c2 w5) n (x3, x4) = some y6 → ∀ (H : Heap) (locs : List Loc) (ls : Array Slot), ST g A s H locs (wSh g a w5) → lv_has ls 5 [(0, .ref (a 0)), (1, .ref (a (3 + 2 * c1))), (2, .int c2), (3, .int x3), (4, .int x4)] → W p l e rX1_countKind s m args below meth c H locs 0 0 Q (F0 m 5 ls []) := by
  have hx := C.1
  have hb := C.2.1
  intro n
  induction n with
  | zero =>
    intro x3 x4 hm
    cases hm
  | succ n ih =>
    intro x3 x4 hm H locs ls X hl
    rw [whl] at hm
    obtain ⟨q, hq, hm2⟩ := bnd hm
    clear hm
    have hm := hq
    clear hq
    rw [bX1_countKind_5] at hm
    refine lv_iload hx hb dX1_countKind_5 (lv_at hl 4 rfl) ?_
    refine lv_aload_n hx hb dX1_countKind_7 rfl (lv_at hl 1 rfl) ?_
    obtain ⟨hgk, hm⟩ := gd_t hm
    have hgk := of_decide_eq_true hgk
    obtain ⟨r7, hcl, hm⟩ := bnd hm
    refine kVp _ (wSh_out hgk) C X (kX3_size l g (sa a c1) (Sh_st w5 c1) r7 hcl) (cw_X1_countKind_X3_size_67 C) 0 (ci := 3) rfl rfl (As := []) rfl hl (rest := [.int x4]) rfl (Nat.le_of_ble_eq_true rfl) (st2 := [.int r7, .int x4]) rfl dX1_countKind_8 ⟨Nat.le_of_ble_eq_true rfl, Nat.le_of_ble_eq_true rfl⟩ (w3 := wSh g a w5) (wSh_in0 hgk) (fun H locs X => ?_)
    clear hcl
    refine lv_icmp_ge (tgt := 44) hx hb dX1_countKind_11 (by decide) (fun hc => ?_) (fun hc => ?_)
    · have hm := ifp hc hm
      cases sm hm
      cases sm hm2
      exact kk _ _ _ X (lv_sub hl [3] rfl)
    · have hm := ifn hc hm
      refine lv_aload_n hx hb dX1_countKind_14 rfl (lv_at hl 1 rfl) ?_
      refine lv_iload hx hb dX1_countKind_15 (lv_at hl 4 rfl) ?_
      refine lv_aload_n hx hb dX1_countKind_17 rfl (lv_at hl 0 rfl) ?_
      refine lv_iconst (v := 1) hx hb dX1_countKind_18 (by decide) ?_
      obtain ⟨r8, hcl, hm⟩ := bnd hm
      refine kVW C X (kX1_value l g a 1 w5 r8 hcl) (cw_X1_countKind_X1_value_71 C) 0 (ci := 1) rfl rfl (As := [.int 1]) rfl hl (rest := [.int x4, .ref (a (3 + 2 * c1))]) rfl (Nat.le_of_ble_eq_true rfl) (st2 := [.int r8, .int x4, .ref (a (3 + 2 * c1))]) rfl dX1_countKind_19 ⟨Nat.le_of_ble_eq_true rfl, Nat.le_of_ble_eq_true rfl⟩ (fun H locs X => ?_)
      clear hcl
      refine lv_aload_n hx hb dX1_countKind_22 rfl (lv_at hl 0 rfl) ?_
      refine lv_iconst (v := 2) hx hb dX1_countKind_23 (by decide) ?_
      obtain ⟨r9, hcl, hm⟩ := bnd hm
      refine kVW C X (kX1_value l g a 2 w5 r9 hcl) (cw_X1_countKind_X1_value_71 C) 0 (ci := 1) rfl rfl (As := [.int 2]) rfl hl (rest := [.int r8, .int x4, .ref (a (3 + 2 * c1))]) rfl (Nat.le_of_ble_eq_true rfl) (st2 := [.int r9, .int r8, .int x4, .ref (a (3 + 2 * c1))]) rfl dX1_countKind_24 ⟨Nat.le_of_ble_eq_true rfl, Nat.le_of_ble_eq_true rfl⟩ (fun H locs X => ?_)
      clear hcl
      obtain ⟨hgk, hm⟩ := gd_t hm
      have hgk := of_decide_eq_true hgk
      obtain ⟨r10, hcl, hm⟩ := bnd hm
      refine kVp _ (wSh_out hgk) C X (kX3_kind l g (sa a c1) x4 r8 r9 (Sh_st w5 c1) r10 hcl) (cw_X1_countKind_X3_kind_75 C) 0 (ci := 3) rfl rfl (As := [.int x4, .int r8, .int r9]) rfl hl (rest := []) rfl (Nat.le_of_ble_eq_true rfl) (st2 := [.int r10]) rfl dX1_countKind_27 ⟨Nat.le_of_ble_eq_true rfl, Nat.le_of_ble_eq_true rfl⟩ (w3 := wSh g a w5) (wSh_in0 hgk) (fun H locs X => ?_)
      clear hcl
      refine lv_iload_n hx hb dX1_countKind_30 rfl (lv_at hl 2 rfl) ?_
      refine lv_iand hx hb dX1_countKind_31 ?_
      obtain ⟨v11, hE, hm⟩ := bnd hm
      have K : ∀ (H : Heap) (locs : List Loc) (ls : Array Slot), ST g A s H locs (wSh g a w5) → lv_has ls 5 [(0, .ref (a 0)), (1, .ref (a (3 + 2 * c1))), (2, .int c2), (3, .int v11), (4, .int x4)] → W p l e rX1_countKind s m args below meth c H locs 0 0 Q (F0 m 38 ls []) := by
        intro H locs ls X hl
        clear hE
        refine lv_iinc (v := x4 + 1) (lv' := [(4, .int (x4 + 1)), (0, .ref (a 0)), (1, .ref (a (3 + 2 * c1))), (2, .int c2), (3, .int v11)]) hx hb dX1_countKind_38 hl (k := 4) rfl rfl (by decide) rfl (fun ls hl => ?_)
        refine lv_goto (tgt := 5) hx hb dX1_countKind_41 (by decide) ?_
        cases sm hm
        exact ih _ _ hm2 _ _ _ X (lv_sub hl [1, 2, 3, 4, 0] rfl)
      clear hm
      have hm := hE
      clear hE
      refine lv_if_eq (tgt := 38) hx hb dX1_countKind_32 (by decide) (fun hc => ?_) (fun hc => ?_)
      · have hm := ifp hc hm
        cases sm hm
        exact K _ _ _ X (lv_sub hl [0, 1, 2, 3, 4] rfl)
      · have hm := ifn hc hm
        refine lv_iinc (v := x3 + 1) (lv' := [(3, .int (x3 + 1)), (0, .ref (a 0)), (1, .ref (a (3 + 2 * c1))), (2, .int c2), (4, .int x4)]) hx hb dX1_countKind_35 hl (k := 3) rfl rfl (by decide) rfl (fun ls hl => ?_)
        cases sm hm
        exact K _ _ _ X (lv_sub hl [1, 2, 3, 0, 4] rfl)
noncomputable def fX1_countKind (p1 : Int32) (i1 : Nat) (u : ShS) : Option (Int32) := (lX1_countKind_5 i1 p1 u 0 0).bind fun y12 => some y12
set_option maxRecDepth 100000 in
set_option maxHeartbeats 4000000 in
theorem kX1_countKind (l : Launch) (g : kG) (a : Nat → Nat) (p1 : Int32) (i1 : Nat) (u : ShS) (o1 : Int32) (hm : fX1_countKind p1 i1 u = some o1) : KM l yX1_countKind wsX1_countKind rX1_countKind g [.ref (a 0), .ref (a (3 + 2 * i1)), .int p1] (wSh g a u) (some (.int o1)) (wSh g a u) 0 0 := by
  refine KM.of (nL := 5) (by decide) rfl (Nat.le_of_ble_eq_true rfl) ?_
  intro p e s m args below meth c A ls C X hl
  have C : CT g p s m args meth c RX1 cX1_countKind 5 (some .int) wsX1_countKind A := C
  have hx := C.1
  have hb := C.2.1
  have hl : lv_has ls 5 [(0, .ref (a 0)), (1, .ref (a (3 + 2 * i1))), (2, .int p1)] := hl
  rw [fX1_countKind] at hm
  refine lv_iconst (v := 0) hx hb dX1_countKind_0 (by decide) ?_
  refine lv_istore_n (lv' := [(3, .int 0), (0, .ref (a 0)), (1, .ref (a (3 + 2 * i1))), (2, .int p1)]) hx hb dX1_countKind_1 rfl hl (by decide) rfl (fun ls hl => ?_)
  refine lv_iconst (v := 0) hx hb dX1_countKind_2 (by decide) ?_
  refine lv_istore (lv' := [(4, .int 0), (3, .int 0), (0, .ref (a 0)), (1, .ref (a (3 + 2 * i1))), (2, .int p1)]) hx hb dX1_countKind_3 hl (by decide) rfl (fun ls hl => ?_)
  obtain ⟨y12, hL, hm⟩ := bnd hm
  obtain ⟨nn, hn⟩ := lp_run hL
  refine tX1_countKind_5 a C i1 p1 u y12 (fun H locs ls X hl => ?_) nn _ _ hn _ _ _ X (lv_sub hl [2, 3, 4, 1, 0] rfl)
  clear hL hn
  refine lv_iload_n hx hb dX1_countKind_44 rfl (lv_at hl 0 rfl) ?_
  cases sm hm
  exact kiret C X dX1_countKind_45
-- X1 BrushStrokes$Sheet.copyFrom(LBrushStrokes$Sheet;)V
abbrev rX1_copyFrom : Room := { frames := 3, cells := 0, slots := 0, locals := 122 }
theorem fl_X1_copyFrom_31 : (Cond.fieldLink RX1 31 "BrushStrokes$Sheet" "values" "[I") ∈ wsX1_copyFrom := by decide +kernel
theorem fl_X1_copyFrom_50 : (Cond.fieldLink RX1 50 "BrushStrokes$Sheet" "simplified" "I") ∈ wsX1_copyFrom := by decide +kernel
theorem fl_X1_copyFrom_53 : (Cond.fieldLink RX1 53 "BrushStrokes$Sheet" "dropped" "I") ∈ wsX1_copyFrom := by decide +kernel
theorem fl_X1_copyFrom_34 : (Cond.fieldLink RX1 34 "BrushStrokes$Sheet" "strokeCount" "I") ∈ wsX1_copyFrom := by decide +kernel
theorem in_X1_copyFrom_X1 : ∀ w ∈ u_ws RX1 TX1 6, w ∈ wsX1_copyFrom := by decide +kernel
theorem cw_X1_copyFrom_X1_strokeAt_38 {p : Program} {s : State} {m : MethodId} {args : Array Value} {meth : Method} {c : Code} {g : kG} {A : Nat → Prop} (C : CT g p s m args meth c RX1 cX1_copyFrom 3 none wsX1_copyFrom A) : CallW rX1_copyFrom s args RX1 RX1 38 yX1_strokeAt cX1_strokeAt 3 (some (.object "BrushStrokes$Stroke")) wsX1_strokeAt rX1_strokeAt 0 0 1 := cwV 1 C.2.2.2.2.2.1 gX1_copyFrom_X1_strokeAt rfl rfl rfl (by decide +kernel) ⟨Nat.le_of_ble_eq_true rfl, Nat.le_of_ble_eq_true rfl⟩
theorem cw_X1_copyFrom_X3_copyFrom_42 {p : Program} {s : State} {m : MethodId} {args : Array Value} {meth : Method} {c : Code} {g : kG} {A : Nat → Prop} (C : CT g p s m args meth c RX1 cX1_copyFrom 3 none wsX1_copyFrom A) : CallW rX1_copyFrom s args RX1 RX3 42 yX3_copyFrom cX3_copyFrom 2 none wsX3_copyFrom rX3_copyFrom 0 0 1 := cwV 1 C.2.2.2.2.2.1 gX1_copyFrom_X3_copyFrom rfl rfl rfl (by decide +kernel) ⟨Nat.le_of_ble_eq_true rfl, Nat.le_of_ble_eq_true rfl⟩
theorem cw_X1_copyFrom_X5_copyRow_46 {p : Program} {s : State} {m : MethodId} {args : Array Value} {meth : Method} {c : Code} {g : kG} {A : Nat → Prop} (C : CT g p s m args meth c RX1 cX1_copyFrom 3 none wsX1_copyFrom A) : va_CN rX1_copyFrom s args RX1 46 yX5_copyRow RX5 cX5_copyRow 2 none wsX5_copyRow rX5_copyRow 0 0 2 ∧ (Cond.static yX5_copyRow).before args s = true ∧ True := ⟨va_cnB 2 C.2.2.2.2.2.1 gX1_copyFrom_X5_copyRow_n46 rfl rfl rfl (C.2.2.2.2.2.2.2.1.2.1.1 (RX1, 46, yX5_copyRow, RX5) (by decide +kernel)) (C.2.2.2.2.2.1 (.initialized RX5) (by decide +kernel)) (by decide +kernel) ⟨Nat.le_of_ble_eq_true rfl, Nat.le_of_ble_eq_true rfl⟩, C.2.2.2.2.2.1 (.static yX5_copyRow) (by decide +kernel), trivial⟩
noncomputable def bX1_copyFrom_2 (w3 : ShS) : Int32 × ShS → Option ((Int32 × ShS) ⊕ (ShS))
  | (x1, u2) => if (Sh_strokeCount w3) ≤ x1 then (some (.inr u2)) else ((fX1_strokeAt x1 u2).bind fun q5 => (fX1_strokeAt x1 w3).bind fun q6 => gd (decide (q5 < 5 ∧ q6 < 5)) ((fX3_copyFrom (Sh_st u2 q5) (Sh_st w3 q6)).bind fun s7 => lt (Sh_s_st u2 q5 s7) fun u8 => some (.inl (x1 + 1, u8))))
noncomputable def lX1_copyFrom_2 (w3 : ShS) (x1 : Int32) (u2 : ShS) : Option (ShS) := lp (bX1_copyFrom_2 w3) (x1, u2)
theorem lX1_copyFrom_2_eq (w3 : ShS) (x1 : Int32) (u2 : ShS) : lX1_copyFrom_2 w3 x1 u2 = (if (Sh_strokeCount w3) ≤ x1 then (some (.inr u2)) else ((fX1_strokeAt x1 u2).bind fun q5 => (fX1_strokeAt x1 w3).bind fun q6 => gd (decide (q5 < 5 ∧ q6 < 5)) ((fX3_copyFrom (Sh_st u2 q5) (Sh_st w3 q6)).bind fun s7 => lt (Sh_s_st u2 q5 s7) fun u8 => some (.inl (x1 + 1, u8))))).bind fun r => Sum.elim (fun z => lX1_copyFrom_2 w3 z.1 z.2) (fun r => some r) r := lp_eq (bX1_copyFrom_2 w3) (x1, u2)
set_option maxRecDepth 100000 in
set_option maxHeartbeats 4000000 in
theorem tX1_copyFrom_2 {p : Program} {l : Launch} {e : Env} {s : State} {m : MethodId} {args : Array Value} {below : List Frame} {meth : Method} {c : Code} {g : kG} {A : Nat → Prop} {Q : State → Prop} (a : Nat → Nat) (b : Nat → Nat) (C : CT g p s m args meth c RX1 cX1_copyFrom 3 none wsX1_copyFrom A) (w3 : ShS) (u4 : ShS) (kk : ∀ (H : Heap) (locs : List Loc) (ls : Array Slot), ST g A s H locs (wSh g a u4 ++ wSh g b w3) → lv_has ls 3 [(0, .ref (a 0)), (1, .ref (b 0))] → W p l e rX1_copyFrom s m args below meth c H locs 0 0 Q (F0 m 29 ls [])) : ∀ (n : Nat) (x1 : Int32) (u2 : ShS), whl (bX1_copyFrom_2 w3) n (x1, u2) = some u4 → ∀ (H : Heap) (locs : List Loc) (ls : Array Slot), ST g A s H locs (wSh g a u2 ++ wSh g b w3) → lv_has ls 3 [(0, .ref (a 0)), (1, .ref (b 0)), (2, .int x1)] → W p l e rX1_copyFrom s m args below meth c H locs 0 0 Q (F0 m 2 ls []) := by
  have hx := C.1
  have hb := C.2.1
  have hinX1 := in_X1_copyFrom_X1
  have hf34 := C.2.2.2.2.2.1 _ fl_X1_copyFrom_34
  intro n
  induction n with
  | zero =>
    intro x1 u2 hm
    cases hm
  | succ n ih =>
    intro x1 u2 hm H locs ls X hl
    rw [whl] at hm
    obtain ⟨q, hq, hm2⟩ := bnd hm
    clear hm
    have hm := hq
    clear hq
    rw [bX1_copyFrom_2] at hm
    refine lv_iload_n hx hb dX1_copyFrom_2 rfl (lv_at hl 2 rfl) ?_
    refine lv_aload_n hx hb dX1_copyFrom_3 rfl (lv_at hl 1 rfl) ?_
    refine kget C X 13 (ci := 1) rfl rfl hinX1 3 (by decide) hf34 (v := .int (Sh_strokeCount w3)) rfl dX1_copyFrom_4 ?_
    refine lv_icmp_ge (tgt := 29) hx hb dX1_copyFrom_7 (by decide) (fun hc => ?_) (fun hc => ?_)
    · have hm := ifp hc hm
      cases sm hm
      cases sm hm2
      exact kk _ _ _ X (lv_sub hl [0, 1] rfl)
    · have hm := ifn hc hm
      refine lv_aload_n hx hb dX1_copyFrom_10 rfl (lv_at hl 0 rfl) ?_
      refine lv_iload_n hx hb dX1_copyFrom_11 rfl (lv_at hl 2 rfl) ?_
      obtain ⟨q5, hcl, hm⟩ := bnd hm
      refine kVF [0, 1, 2, 3, 4, 5, 6, 7, 8, 9, 10, 11, 12] [13, 14, 15, 16, 17, 18, 19, 20, 21, 22, 23, 24, 25] C X (kX1_strokeAt l g a x1 u2 q5 hcl) (cw_X1_copyFrom_X1_strokeAt_38 C) 0 (ci := 1) rfl rfl rfl (by decide) rfl (by decide) (by decide) (As := [.int x1]) rfl hl (rest := []) rfl (Nat.le_of_ble_eq_true rfl) (st2 := [.ref (a (3 + 2 * q5))]) rfl dX1_copyFrom_12 ⟨Nat.le_of_ble_eq_true rfl, Nat.le_of_ble_eq_true rfl⟩ [13, 14, 15, 16, 17, 18, 19, 20, 21, 22, 23, 24, 25, 0, 1, 2, 3, 4, 5, 6, 7, 8, 9, 10, 11, 12] (by decide) (w3 := wSh g a u2 ++ wSh g b w3) rfl (fun H locs X => ?_)
      clear hcl
      refine lv_aload_n hx hb dX1_copyFrom_15 rfl (lv_at hl 1 rfl) ?_
      refine lv_iload_n hx hb dX1_copyFrom_16 rfl (lv_at hl 2 rfl) ?_
      obtain ⟨q6, hcl, hm⟩ := bnd hm
      refine kVF [13, 14, 15, 16, 17, 18, 19, 20, 21, 22, 23, 24, 25] [0, 1, 2, 3, 4, 5, 6, 7, 8, 9, 10, 11, 12] C X (kX1_strokeAt l g b x1 w3 q6 hcl) (cw_X1_copyFrom_X1_strokeAt_38 C) 13 (ci := 1) rfl rfl rfl (by decide) rfl (by decide) (by decide) (As := [.int x1]) rfl hl (rest := [.ref (a (3 + 2 * q5))]) rfl (Nat.le_of_ble_eq_true rfl) (st2 := [.ref (b (3 + 2 * q6)), .ref (a (3 + 2 * q5))]) rfl dX1_copyFrom_17 ⟨Nat.le_of_ble_eq_true rfl, Nat.le_of_ble_eq_true rfl⟩ [0, 1, 2, 3, 4, 5, 6, 7, 8, 9, 10, 11, 12, 13, 14, 15, 16, 17, 18, 19, 20, 21, 22, 23, 24, 25] (by decide) (w3 := wSh g a u2 ++ wSh g b w3) rfl (fun H locs X => ?_)
      clear hcl
      obtain ⟨hgk, hm⟩ := gd_t hm
      have hgk := of_decide_eq_true hgk
      obtain ⟨s7, hcl, hm⟩ := bnd hm
      refine kVp _ (wShB_out hgk.1 hgk.2) C X (kX3_copyFrom l g (sa a q5) (sa b q6) (Sh_st u2 q5) (Sh_st w3 q6) s7 hcl) (cw_X1_copyFrom_X3_copyFrom_42 C) 0 (ci := 3) rfl rfl (As := [.ref (b (3 + 2 * q6))]) rfl hl (rest := []) rfl (Nat.le_of_ble_eq_true rfl) (st2 := []) rfl dX1_copyFrom_20 ⟨Nat.le_of_ble_eq_true rfl, Nat.le_of_ble_eq_true rfl⟩ (w3 := wSh g a (Sh_s_st u2 q5 s7) ++ wSh g b w3) (wShB_in hgk.1 hgk.2 s7) (fun H locs X => ?_)
      clear hcl
      obtain ⟨u8, eu⟩ : ∃ z, z = Sh_s_st u2 q5 s7 := ⟨_, rfl⟩
      have hm := lt_t eu hm
      rw [← eu] at X
      clear eu
      refine lv_iinc (v := x1 + 1) (lv' := [(2, .int (x1 + 1)), (0, .ref (a 0)), (1, .ref (b 0))]) hx hb dX1_copyFrom_23 hl (k := 2) rfl rfl (by decide) rfl (fun ls hl => ?_)
      refine lv_goto (tgt := 2) hx hb dX1_copyFrom_26 (by decide) ?_
      cases sm hm
      exact ih _ _ hm2 _ _ _ X (lv_sub hl [1, 2, 0] rfl)
noncomputable def fX1_copyFrom (u : ShS) (w : ShS) : Option (ShS) := (lX1_copyFrom_2 w 0 u).bind fun u9 => (fX5_copyRow 4 4 (Sh_values w) (Sh_values u9)).bind fun u10 => lt (Sh_s_strokeCount (Sh_s_values u9 u10) (Sh_strokeCount w)) fun u11 => lt (Sh_s_simplified u11 (Sh_simplified w)) fun u12 => lt (Sh_s_dropped u12 (Sh_dropped w)) fun u13 => some u13
set_option maxRecDepth 100000 in
set_option maxHeartbeats 4000000 in
theorem kX1_copyFrom (l : Launch) (g : kG) (a : Nat → Nat) (b : Nat → Nat) (u : ShS) (w : ShS) (o1 : ShS) (hm : fX1_copyFrom u w = some o1) : KM l yX1_copyFrom wsX1_copyFrom rX1_copyFrom g [.ref (a 0), .ref (b 0)] (wSh g a u ++ wSh g b w) none (wSh g a o1 ++ wSh g b w) 0 0 := by
  refine KM.of (nL := 3) (by decide) rfl (Nat.le_of_ble_eq_true rfl) ?_
  intro p e s m args below meth c A ls C X hl
  have C : CT g p s m args meth c RX1 cX1_copyFrom 3 none wsX1_copyFrom A := C
  have hx := C.1
  have hb := C.2.1
  have hl : lv_has ls 3 [(0, .ref (a 0)), (1, .ref (b 0))] := hl
  have hinX1 := in_X1_copyFrom_X1
  have hf31 := C.2.2.2.2.2.1 _ fl_X1_copyFrom_31
  have hf34 := C.2.2.2.2.2.1 _ fl_X1_copyFrom_34
  have hf50 := C.2.2.2.2.2.1 _ fl_X1_copyFrom_50
  have hf53 := C.2.2.2.2.2.1 _ fl_X1_copyFrom_53
  rw [fX1_copyFrom] at hm
  refine lv_iconst (v := 0) hx hb dX1_copyFrom_0 (by decide) ?_
  refine lv_istore_n (lv' := [(2, .int 0), (0, .ref (a 0)), (1, .ref (b 0))]) hx hb dX1_copyFrom_1 rfl hl (by decide) rfl (fun ls hl => ?_)
  obtain ⟨u9, hL, hm⟩ := bnd hm
  obtain ⟨nn, hn⟩ := lp_run hL
  refine tX1_copyFrom_2 a b C w u9 (fun H locs ls X hl => ?_) nn _ _ hn _ _ _ X (lv_sub hl [1, 2, 0] rfl)
  clear hL hn
  refine lv_aload_n hx hb dX1_copyFrom_29 rfl (lv_at hl 1 rfl) ?_
  refine kget C X 13 (ci := 1) rfl rfl hinX1 2 (by decide) hf31 (v := .ref (b 2)) rfl dX1_copyFrom_30 ?_
  refine lv_aload_n hx hb dX1_copyFrom_33 rfl (lv_at hl 0 rfl) ?_
  refine kget C X 0 (ci := 1) rfl rfl hinX1 2 (by decide) hf31 (v := .ref (a 2)) rfl dX1_copyFrom_34 ?_
  obtain ⟨u10, hcl, hm⟩ := bnd hm
  refine kNF [15, 2] [0, 1, 3, 4, 5, 6, 7, 8, 9, 10, 11, 12, 13, 14, 16, 17, 18, 19, 20, 21, 22, 23, 24, 25] C X (kX5_copyRow l g (fun _ => b 2) (fun _ => a 2) 4 4 (Sh_values w) (Sh_values u9) u10 hcl) (cw_X1_copyFrom_X5_copyRow_46 C) rfl (by decide) rfl (by decide) (by decide) (As := [.ref (b 2), .ref (a 2)]) rfl hl (rest := []) rfl (Nat.le_of_ble_eq_true rfl) (st2 := []) rfl dX1_copyFrom_37 ⟨Nat.le_of_ble_eq_true rfl, Nat.le_of_ble_eq_true rfl⟩ [0, 1, 25, 2, 3, 4, 5, 6, 7, 8, 9, 10, 11, 12, 13, 24, 14, 15, 16, 17, 18, 19, 20, 21, 22, 23] (by decide) (w3 := wSh g a (Sh_s_values u9 u10) ++ wSh g b w) rfl (fun H locs X => ?_)
  clear hcl
  refine lv_aload_n hx hb dX1_copyFrom_40 rfl (lv_at hl 0 rfl) ?_
  refine lv_aload_n hx hb dX1_copyFrom_41 rfl (lv_at hl 1 rfl) ?_
  refine kget C X 13 (ci := 1) rfl rfl hinX1 3 (by decide) hf34 (v := .int (Sh_strokeCount w)) rfl dX1_copyFrom_42 ?_
  obtain ⟨u11, eu⟩ : ∃ z, z = Sh_s_strokeCount (Sh_s_values u9 u10) (Sh_strokeCount w) := ⟨_, rfl⟩
  have hm := lt_t eu hm
  refine kput C X 0 (ci := 1) rfl rfl hinX1 tyX1_ok nmX1 3 (by decide) hf34 rfl (ty := .int) (v := .int (Sh_strokeCount w)) rfl rfl rfl (Nat.le_of_ble_eq_true rfl) (w2 := wSh g a u11 ++ wSh g b w) (by subst eu; rfl) dX1_copyFrom_45 (fun H locs X => ?_)
  clear eu
  refine lv_aload_n hx hb dX1_copyFrom_48 rfl (lv_at hl 0 rfl) ?_
  refine lv_aload_n hx hb dX1_copyFrom_49 rfl (lv_at hl 1 rfl) ?_
  refine kget C X 13 (ci := 1) rfl rfl hinX1 4 (by decide) hf50 (v := .int (Sh_simplified w)) rfl dX1_copyFrom_50 ?_
  obtain ⟨u12, eu⟩ : ∃ z, z = Sh_s_simplified u11 (Sh_simplified w) := ⟨_, rfl⟩
  have hm := lt_t eu hm
  refine kput C X 0 (ci := 1) rfl rfl hinX1 tyX1_ok nmX1 4 (by decide) hf50 rfl (ty := .int) (v := .int (Sh_simplified w)) rfl rfl rfl (Nat.le_of_ble_eq_true rfl) (w2 := wSh g a u12 ++ wSh g b w) (by subst eu; rfl) dX1_copyFrom_53 (fun H locs X => ?_)
  clear eu
  refine lv_aload_n hx hb dX1_copyFrom_56 rfl (lv_at hl 0 rfl) ?_
  refine lv_aload_n hx hb dX1_copyFrom_57 rfl (lv_at hl 1 rfl) ?_
  refine kget C X 13 (ci := 1) rfl rfl hinX1 5 (by decide) hf53 (v := .int (Sh_dropped w)) rfl dX1_copyFrom_58 ?_
  obtain ⟨u13, eu⟩ : ∃ z, z = Sh_s_dropped u12 (Sh_dropped w) := ⟨_, rfl⟩
  have hm := lt_t eu hm
  refine kput C X 0 (ci := 1) rfl rfl hinX1 tyX1_ok nmX1 5 (by decide) hf53 rfl (ty := .int) (v := .int (Sh_dropped w)) rfl rfl rfl (Nat.le_of_ble_eq_true rfl) (w2 := wSh g a u13 ++ wSh g b w) (by subst eu; rfl) dX1_copyFrom_61 (fun H locs X => ?_)
  clear eu
  cases sm hm
  exact kvret C X dX1_copyFrom_64
