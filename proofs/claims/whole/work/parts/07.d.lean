-- X4 BrushStrokes$StrokeText.length()I
abbrev rX4_length : Room := { frames := 0, cells := 0, slots := 0, locals := 0 }
theorem fl_X4_length_22 : (Cond.fieldLink RX4 22 "BrushStrokes$StrokeText" "length" "I") ∈ wsX4_length := by decide +kernel
theorem in_X4_length_X4 : ∀ w ∈ u_ws RX4 TX4 8, w ∈ wsX4_length := by decide +kernel
noncomputable def fX4_length (u : TS) (w : SS) : Option (Int32) := some (T_length u)
set_option maxRecDepth 100000 in
set_option maxHeartbeats 4000000 in
theorem kX4_length (l : Launch) (g : kG) (a : Nat → Nat) (b : Nat → Nat) (u : TS) (w : SS) (o1 : Int32) (hm : fX4_length u w = some o1) : KM l yX4_length wsX4_length rX4_length g [.ref (a 0)] (wT g a (b 0) u ++ wS g b w) (some (.int o1)) (wT g a (b 0) u ++ wS g b w) 0 0 := by
  refine KM.of (nL := 1) (by decide) rfl (Nat.le_of_ble_eq_true rfl) ?_
  intro p e s m args below meth c A ls C X hl
  have C : CT g p s m args meth c RX4 cX4_length 1 (some .int) wsX4_length A := C
  have hx := C.1
  have hb := C.2.1
  have hl : lv_has ls 1 [(0, .ref (a 0))] := hl
  have hinX4 := in_X4_length_X4
  have hf22 := C.2.2.2.2.2.1 _ fl_X4_length_22
  rw [fX4_length] at hm
  refine lv_aload_n hx hb dX4_length_0 rfl (lv_at hl 0 rfl) ?_
  refine kget C X 0 (ci := 4) rfl rfl hinX4 1 (by decide) hf22 (v := .int (T_length u)) rfl dX4_length_1 ?_
  cases sm hm
  exact kiret C X dX4_length_4
-- X4 BrushStrokes$StrokeText.empty()V
abbrev rX4_empty : Room := { frames := 0, cells := 0, slots := 0, locals := 0 }
theorem fl_X4_empty_22 : (Cond.fieldLink RX4 22 "BrushStrokes$StrokeText" "length" "I") ∈ wsX4_empty := by decide +kernel
theorem in_X4_empty_X4 : ∀ w ∈ u_ws RX4 TX4 8, w ∈ wsX4_empty := by decide +kernel
noncomputable def fX4_empty (u : TS) (w : SS) : Option (TS) := lt (T_s_length u 0) fun u1 => some u1
set_option maxRecDepth 100000 in
set_option maxHeartbeats 4000000 in
theorem kX4_empty (l : Launch) (g : kG) (a : Nat → Nat) (b : Nat → Nat) (u : TS) (w : SS) (o1 : TS) (hm : fX4_empty u w = some o1) : KM l yX4_empty wsX4_empty rX4_empty g [.ref (a 0)] (wT g a (b 0) u ++ wS g b w) none (wT g a (b 0) o1 ++ wS g b w) 0 0 := by
  refine KM.of (nL := 1) (by decide) rfl (Nat.le_of_ble_eq_true rfl) ?_
  intro p e s m args below meth c A ls C X hl
  have C : CT g p s m args meth c RX4 cX4_empty 1 none wsX4_empty A := C
  have hx := C.1
  have hb := C.2.1
  have hl : lv_has ls 1 [(0, .ref (a 0))] := hl
  have hinX4 := in_X4_empty_X4
  have hf22 := C.2.2.2.2.2.1 _ fl_X4_empty_22
  rw [fX4_empty] at hm
  refine lv_aload_n hx hb dX4_empty_0 rfl (lv_at hl 0 rfl) ?_
  refine lv_iconst (v := 0) hx hb dX4_empty_1 (by decide) ?_
  obtain ⟨u1, eu⟩ : ∃ z, z = T_s_length u 0 := ⟨_, rfl⟩
  have hm := lt_t eu hm
  refine kput C X 0 (ci := 4) rfl rfl hinX4 tyX4_ok nmX4 1 (by decide) hf22 rfl (ty := .int) (v := .int 0) rfl rfl rfl (Nat.le_of_ble_eq_true rfl) (w2 := wT g a (b 0) u1 ++ wS g b w) (by subst eu; rfl) dX4_empty_2 (fun H locs X => ?_)
  clear eu
  cases sm hm
  exact kvret C X dX4_empty_5
-- X4 BrushStrokes$StrokeText.addCode(I)V
abbrev rX4_addCode : Room := { frames := 1, cells := 0, slots := 0, locals := 22 }
theorem fl_X4_addCode_22 : (Cond.fieldLink RX4 22 "BrushStrokes$StrokeText" "length" "I") ∈ wsX4_addCode := by decide +kernel
theorem fl_X4_addCode_9 : (Cond.fieldLink RX4 9 "BrushStrokes$StrokeText" "codes" "[I") ∈ wsX4_addCode := by decide +kernel
theorem in_X4_addCode_X4 : ∀ w ∈ u_ws RX4 TX4 8, w ∈ wsX4_addCode := by decide +kernel
theorem cw_X4_addCode_X5_putCell_26 {p : Program} {s : State} {m : MethodId} {args : Array Value} {meth : Method} {c : Code} {g : kG} {A : Nat → Prop} (C : CT g p s m args meth c RX4 cX4_addCode 2 none wsX4_addCode A) : va_CN rX4_addCode s args RX4 26 yX5_putCell RX5 cX5_putCell 3 none wsX5_putCell rX5_putCell 0 0 3 ∧ (Cond.static yX5_putCell).before args s = true ∧ True := ⟨va_cnB 3 C.2.2.2.2.2.1 gX4_addCode_X5_putCell_n26 rfl rfl rfl (C.2.2.2.2.2.2.2.1.2.1.1 (RX4, 26, yX5_putCell, RX5) (by decide +kernel)) (C.2.2.2.2.2.1 (.initialized RX5) (by decide +kernel)) (by decide +kernel) ⟨Nat.le_of_ble_eq_true rfl, Nat.le_of_ble_eq_true rfl⟩, C.2.2.2.2.2.1 (.static yX5_putCell) (by decide +kernel), trivial⟩
noncomputable def fX4_addCode (p1 : Int32) (u : TS) (w : SS) : Option (TS) := (fX5_putCell (T_length u) p1 70 (T_codes u)).bind fun u1 => lt (T_s_length (T_s_codes u u1) ((T_length (T_s_codes u u1)) + 1)) fun u2 => some u2
set_option maxRecDepth 100000 in
set_option maxHeartbeats 4000000 in
theorem kX4_addCode (l : Launch) (g : kG) (a : Nat → Nat) (b : Nat → Nat) (p1 : Int32) (u : TS) (w : SS) (o1 : TS) (hm : fX4_addCode p1 u w = some o1) : KM l yX4_addCode wsX4_addCode rX4_addCode g [.ref (a 0), .int p1] (wT g a (b 0) u ++ wS g b w) none (wT g a (b 0) o1 ++ wS g b w) 0 0 := by
  refine KM.of (nL := 2) (by decide) rfl (Nat.le_of_ble_eq_true rfl) ?_
  intro p e s m args below meth c A ls C X hl
  have C : CT g p s m args meth c RX4 cX4_addCode 2 none wsX4_addCode A := C
  have hx := C.1
  have hb := C.2.1
  have hl : lv_has ls 2 [(0, .ref (a 0)), (1, .int p1)] := hl
  have hinX4 := in_X4_addCode_X4
  have hf9 := C.2.2.2.2.2.1 _ fl_X4_addCode_9
  have hf22 := C.2.2.2.2.2.1 _ fl_X4_addCode_22
  rw [fX4_addCode] at hm
  refine lv_aload_n hx hb dX4_addCode_0 rfl (lv_at hl 0 rfl) ?_
  refine kget C X 0 (ci := 4) rfl rfl hinX4 0 (by decide) hf9 (v := .ref (a 1)) rfl dX4_addCode_1 ?_
  refine lv_aload_n hx hb dX4_addCode_4 rfl (lv_at hl 0 rfl) ?_
  refine kget C X 0 (ci := 4) rfl rfl hinX4 1 (by decide) hf22 (v := .int (T_length u)) rfl dX4_addCode_5 ?_
  refine lv_iload_n hx hb dX4_addCode_8 rfl (lv_at hl 1 rfl) ?_
  obtain ⟨u1, hcl, hm⟩ := bnd hm
  refine kNF [1] [0, 2, 3] C X (kX5_putCell l g (fun _ => a 1) (T_length u) p1 70 (T_codes u) u1 hcl) (cw_X4_addCode_X5_putCell_26 C) rfl (by decide) rfl (by decide) (by decide) (As := [.ref (a 1), .int (T_length u), .int p1]) rfl hl (rest := []) rfl (Nat.le_of_ble_eq_true rfl) (st2 := []) rfl dX4_addCode_9 ⟨Nat.le_of_ble_eq_true rfl, Nat.le_of_ble_eq_true rfl⟩ [0, 3, 1, 2] (by decide) (w3 := wT g a (b 0) (T_s_codes u u1) ++ wS g b w) rfl (fun H locs X => ?_)
  clear hcl
  refine lv_aload_n hx hb dX4_addCode_12 rfl (lv_at hl 0 rfl) ?_
  refine lv_dup hx hb dX4_addCode_13 rfl ?_
  refine kget C X 0 (ci := 4) rfl rfl hinX4 1 (by decide) hf22 (v := .int (T_length (T_s_codes u u1))) rfl dX4_addCode_14 ?_
  refine lv_iconst (v := 1) hx hb dX4_addCode_17 (by decide) ?_
  refine lv_iadd hx hb dX4_addCode_18 ?_
  obtain ⟨u2, eu⟩ : ∃ z, z = T_s_length (T_s_codes u u1) ((T_length (T_s_codes u u1)) + 1) := ⟨_, rfl⟩
  have hm := lt_t eu hm
  refine kput C X 0 (ci := 4) rfl rfl hinX4 tyX4_ok nmX4 1 (by decide) hf22 rfl (ty := .int) (v := .int ((T_length (T_s_codes u u1)) + 1)) rfl rfl rfl (Nat.le_of_ble_eq_true rfl) (w2 := wT g a (b 0) u2 ++ wS g b w) (by subst eu; rfl) dX4_addCode_19 (fun H locs X => ?_)
  clear eu
  cases sm hm
  exact kvret C X dX4_addCode_22
-- X4 BrushStrokes$StrokeText.beginPart(I)V
abbrev rX4_beginPart : Room := { frames := 0, cells := 0, slots := 0, locals := 0 }
theorem fl_X4_beginPart_49 : (Cond.fieldLink RX4 49 "BrushStrokes$StrokeText" "digits" "I") ∈ wsX4_beginPart := by decide +kernel
theorem fl_X4_beginPart_52 : (Cond.fieldLink RX4 52 "BrushStrokes$StrokeText" "part" "I") ∈ wsX4_beginPart := by decide +kernel
theorem fl_X4_beginPart_61 : (Cond.fieldLink RX4 61 "BrushStrokes$StrokeText" "number" "I") ∈ wsX4_beginPart := by decide +kernel
theorem in_X4_beginPart_X4 : ∀ w ∈ u_ws RX4 TX4 8, w ∈ wsX4_beginPart := by decide +kernel
noncomputable def fX4_beginPart (p1 : Int32) (u : TS) (w : SS) : Option (TS) := lt (T_s_part u p1) fun u1 => lt (T_s_digits u1 0) fun u2 => lt (T_s_number u2 0) fun u3 => some u3
set_option maxRecDepth 100000 in
set_option maxHeartbeats 4000000 in
theorem kX4_beginPart (l : Launch) (g : kG) (a : Nat → Nat) (b : Nat → Nat) (p1 : Int32) (u : TS) (w : SS) (o1 : TS) (hm : fX4_beginPart p1 u w = some o1) : KM l yX4_beginPart wsX4_beginPart rX4_beginPart g [.ref (a 0), .int p1] (wT g a (b 0) u ++ wS g b w) none (wT g a (b 0) o1 ++ wS g b w) 0 0 := by
  refine KM.of (nL := 2) (by decide) rfl (Nat.le_of_ble_eq_true rfl) ?_
  intro p e s m args below meth c A ls C X hl
  have C : CT g p s m args meth c RX4 cX4_beginPart 2 none wsX4_beginPart A := C
  have hx := C.1
  have hb := C.2.1
  have hl : lv_has ls 2 [(0, .ref (a 0)), (1, .int p1)] := hl
  have hinX4 := in_X4_beginPart_X4
  have hf49 := C.2.2.2.2.2.1 _ fl_X4_beginPart_49
  have hf52 := C.2.2.2.2.2.1 _ fl_X4_beginPart_52
  have hf61 := C.2.2.2.2.2.1 _ fl_X4_beginPart_61
  rw [fX4_beginPart] at hm
  refine lv_aload_n hx hb dX4_beginPart_0 rfl (lv_at hl 0 rfl) ?_
  refine lv_iload_n hx hb dX4_beginPart_1 rfl (lv_at hl 1 rfl) ?_
  obtain ⟨u1, eu⟩ : ∃ z, z = T_s_part u p1 := ⟨_, rfl⟩
  have hm := lt_t eu hm
  refine kput C X 0 (ci := 4) rfl rfl hinX4 tyX4_ok nmX4 3 (by decide) hf52 rfl (ty := .int) (v := .int p1) rfl rfl rfl (Nat.le_of_ble_eq_true rfl) (w2 := wT g a (b 0) u1 ++ wS g b w) (by subst eu; rfl) dX4_beginPart_2 (fun H locs X => ?_)
  clear eu
  refine lv_aload_n hx hb dX4_beginPart_5 rfl (lv_at hl 0 rfl) ?_
  refine lv_iconst (v := 0) hx hb dX4_beginPart_6 (by decide) ?_
  obtain ⟨u2, eu⟩ : ∃ z, z = T_s_digits u1 0 := ⟨_, rfl⟩
  have hm := lt_t eu hm
  refine kput C X 0 (ci := 4) rfl rfl hinX4 tyX4_ok nmX4 4 (by decide) hf49 rfl (ty := .int) (v := .int 0) rfl rfl rfl (Nat.le_of_ble_eq_true rfl) (w2 := wT g a (b 0) u2 ++ wS g b w) (by subst eu; rfl) dX4_beginPart_7 (fun H locs X => ?_)
  clear eu
  refine lv_aload_n hx hb dX4_beginPart_10 rfl (lv_at hl 0 rfl) ?_
  refine lv_iconst (v := 0) hx hb dX4_beginPart_11 (by decide) ?_
  obtain ⟨u3, eu⟩ : ∃ z, z = T_s_number u2 0 := ⟨_, rfl⟩
  have hm := lt_t eu hm
  refine kput C X 0 (ci := 4) rfl rfl hinX4 tyX4_ok nmX4 5 (by decide) hf61 rfl (ty := .int) (v := .int 0) rfl rfl rfl (Nat.le_of_ble_eq_true rfl) (w2 := wT g a (b 0) u3 ++ wS g b w) (by subst eu; rfl) dX4_beginPart_12 (fun H locs X => ?_)
  clear eu
  cases sm hm
  exact kvret C X dX4_beginPart_15
-- X4 BrushStrokes$StrokeText.readsDigit(I)Z
abbrev rX4_readsDigit : Room := { frames := 0, cells := 0, slots := 0, locals := 0 }
theorem fl_X4_readsDigit_49 : (Cond.fieldLink RX4 49 "BrushStrokes$StrokeText" "digits" "I") ∈ wsX4_readsDigit := by decide +kernel
theorem fl_X4_readsDigit_52 : (Cond.fieldLink RX4 52 "BrushStrokes$StrokeText" "part" "I") ∈ wsX4_readsDigit := by decide +kernel
theorem fl_X4_readsDigit_61 : (Cond.fieldLink RX4 61 "BrushStrokes$StrokeText" "number" "I") ∈ wsX4_readsDigit := by decide +kernel
theorem in_X4_readsDigit_X4 : ∀ w ∈ u_ws RX4 TX4 8, w ∈ wsX4_readsDigit := by decide +kernel
noncomputable def fX4_readsDigit (p1 : Int32) (u : TS) (w : SS) : Option (Int32 × TS) := ((if (T_digits u) ≤ 0 then (some 0) else (if (T_number u) = 0 then (some 1) else (some 0))) : Option (Int32)).bind fun v1 => ((if (T_part u) = 2 then (some 1) else (some 0)) : Option (Int32)).bind fun v2 => ((if (T_part u) = 2 then (some 20) else (some 99)) : Option (Int32)).bind fun v3 => if v1 = 0 then (if ((10 * (T_number u)) + p1) < v2 then (some (0, u)) else (if ((10 * (T_number u)) + p1) ≤ v3 then (lt (T_s_number u ((10 * (T_number u)) + p1)) fun u4 => lt (T_s_digits u4 ((T_digits u4) + 1)) fun u5 => some (1, u5)) else (some (0, u)))) else (some (0, u))
set_option maxRecDepth 100000 in
set_option maxHeartbeats 4000000 in
theorem kX4_readsDigit (l : Launch) (g : kG) (a : Nat → Nat) (b : Nat → Nat) (p1 : Int32) (u : TS) (w : SS) (o1 : Int32) (o2 : TS) (hm : fX4_readsDigit p1 u w = some (o1, o2)) : KM l yX4_readsDigit wsX4_readsDigit rX4_readsDigit g [.ref (a 0), .int p1] (wT g a (b 0) u ++ wS g b w) (some (.int o1)) (wT g a (b 0) o2 ++ wS g b w) 0 0 := by
  refine KM.of (nL := 6) (by decide) rfl (Nat.le_of_ble_eq_true rfl) ?_
  intro p e s m args below meth c A ls C X hl
  have C : CT g p s m args meth c RX4 cX4_readsDigit 6 (some .boolean) wsX4_readsDigit A := C
  have hx := C.1
  have hb := C.2.1
  have hl : lv_has ls 6 [(0, .ref (a 0)), (1, .int p1)] := hl
  have hinX4 := in_X4_readsDigit_X4
  have hf49 := C.2.2.2.2.2.1 _ fl_X4_readsDigit_49
  have hf52 := C.2.2.2.2.2.1 _ fl_X4_readsDigit_52
  have hf61 := C.2.2.2.2.2.1 _ fl_X4_readsDigit_61
  rw [fX4_readsDigit] at hm
  refine lv_aload_n hx hb dX4_readsDigit_0 rfl (lv_at hl 0 rfl) ?_
  refine kget C X 0 (ci := 4) rfl rfl hinX4 4 (by decide) hf49 (v := .int (T_digits u)) rfl dX4_readsDigit_1 ?_
  obtain ⟨v1, hE, hm⟩ := bnd hm
  have K : ∀ (H : Heap) (locs : List Loc) (ls : Array Slot), ST g A s H locs (wT g a (b 0) u ++ wS g b w) → lv_has ls 6 [(0, .ref (a 0)), (1, .int p1)] → W p l e rX4_readsDigit s m args below meth c H locs 0 0 (kEnd g below args s (some (.int o1)) (wT g a (b 0) o2 ++ wS g b w) A 0 0) (F0 m 19 ls [.int v1]) := by
    intro H locs ls X hl
    clear hE
    refine lv_istore_n (lv' := [(2, .int v1), (0, .ref (a 0)), (1, .int p1)]) hx hb dX4_readsDigit_19 rfl hl (by decide) rfl (fun ls hl => ?_)
    refine lv_bipush (v := 10) hx hb dX4_readsDigit_20 (by decide) ?_
    refine lv_aload_n hx hb dX4_readsDigit_22 rfl (lv_at hl 1 rfl) ?_
    refine kget C X 0 (ci := 4) rfl rfl hinX4 5 (by decide) hf61 (v := .int (T_number u)) rfl dX4_readsDigit_23 ?_
    refine lv_imul hx hb dX4_readsDigit_26 ?_
    refine lv_iload_n hx hb dX4_readsDigit_27 rfl (lv_at hl 2 rfl) ?_
    refine lv_iadd hx hb dX4_readsDigit_28 ?_
    refine lv_istore_n (lv' := [(3, .int ((10 * (T_number u)) + p1)), (2, .int v1), (0, .ref (a 0)), (1, .int p1)]) hx hb dX4_readsDigit_29 rfl hl (by decide) rfl (fun ls hl => ?_)
    refine lv_aload_n hx hb dX4_readsDigit_30 rfl (lv_at hl 2 rfl) ?_
    refine kget C X 0 (ci := 4) rfl rfl hinX4 3 (by decide) hf52 (v := .int (T_part u)) rfl dX4_readsDigit_31 ?_
    refine lv_iconst (v := 2) hx hb dX4_readsDigit_34 (by decide) ?_
    obtain ⟨v2, hE, hm⟩ := bnd hm
    have K : ∀ (H : Heap) (locs : List Loc) (ls : Array Slot), ST g A s H locs (wT g a (b 0) u ++ wS g b w) → lv_has ls 6 [(0, .ref (a 0)), (2, .int v1), (3, .int ((10 * (T_number u)) + p1))] → W p l e rX4_readsDigit s m args below meth c H locs 0 0 (kEnd g below args s (some (.int o1)) (wT g a (b 0) o2 ++ wS g b w) A 0 0) (F0 m 43 ls [.int v2]) := by
      intro H locs ls X hl
      clear hE
      refine lv_istore (lv' := [(4, .int v2), (0, .ref (a 0)), (2, .int v1), (3, .int ((10 * (T_number u)) + p1))]) hx hb dX4_readsDigit_43 hl (by decide) rfl (fun ls hl => ?_)
      refine lv_aload_n hx hb dX4_readsDigit_45 rfl (lv_at hl 1 rfl) ?_
      refine kget C X 0 (ci := 4) rfl rfl hinX4 3 (by decide) hf52 (v := .int (T_part u)) rfl dX4_readsDigit_46 ?_
      refine lv_iconst (v := 2) hx hb dX4_readsDigit_49 (by decide) ?_
      obtain ⟨v3, hE, hm⟩ := bnd hm
      have K : ∀ (H : Heap) (locs : List Loc) (ls : Array Slot), ST g A s H locs (wT g a (b 0) u ++ wS g b w) → lv_has ls 6 [(0, .ref (a 0)), (2, .int v1), (3, .int ((10 * (T_number u)) + p1)), (4, .int v2)] → W p l e rX4_readsDigit s m args below meth c H locs 0 0 (kEnd g below args s (some (.int o1)) (wT g a (b 0) o2 ++ wS g b w) A 0 0) (F0 m 60 ls [.int v3]) := by
        intro H locs ls X hl
        clear hE
        refine lv_istore (lv' := [(5, .int v3), (0, .ref (a 0)), (2, .int v1), (3, .int ((10 * (T_number u)) + p1)), (4, .int v2)]) hx hb dX4_readsDigit_60 hl (by decide) rfl (fun ls hl => ?_)
        refine lv_iload_n hx hb dX4_readsDigit_62 rfl (lv_at hl 2 rfl) ?_
        refine lv_if_ne (tgt := 78) hx hb dX4_readsDigit_63 (by decide) (fun hc => ?_) (fun hc => ?_)
        · have hm := ifn hc hm
          refine lv_iconst (v := 0) hx hb dX4_readsDigit_78 (by decide) ?_
          cases sm hm
          exact kzret rfl C X dX4_readsDigit_79
        · have hm := ifp hc hm
          refine lv_iload_n hx hb dX4_readsDigit_66 rfl (lv_at hl 3 rfl) ?_
          refine lv_iload hx hb dX4_readsDigit_67 (lv_at hl 4 rfl) ?_
          refine lv_icmp_lt (tgt := 78) hx hb dX4_readsDigit_69 (by decide) (fun hc => ?_) (fun hc => ?_)
          · have hm := ifp hc hm
            refine lv_iconst (v := 0) hx hb dX4_readsDigit_78 (by decide) ?_
            cases sm hm
            exact kzret rfl C X dX4_readsDigit_79
          · have hm := ifn hc hm
            refine lv_iload_n hx hb dX4_readsDigit_72 rfl (lv_at hl 3 rfl) ?_
            refine lv_iload hx hb dX4_readsDigit_73 (lv_at hl 0 rfl) ?_
            refine lv_icmp_le (tgt := 80) hx hb dX4_readsDigit_75 (by decide) (fun hc => ?_) (fun hc => ?_)
            · have hm := ifp hc hm
              refine lv_aload_n hx hb dX4_readsDigit_80 rfl (lv_at hl 1 rfl) ?_
              refine lv_iload_n hx hb dX4_readsDigit_81 rfl (lv_at hl 3 rfl) ?_
              obtain ⟨u4, eu⟩ : ∃ z, z = T_s_number u ((10 * (T_number u)) + p1) := ⟨_, rfl⟩
              have hm := lt_t eu hm
              refine kput C X 0 (ci := 4) rfl rfl hinX4 tyX4_ok nmX4 5 (by decide) hf61 rfl (ty := .int) (v := .int ((10 * (T_number u)) + p1)) rfl rfl rfl (Nat.le_of_ble_eq_true rfl) (w2 := wT g a (b 0) u4 ++ wS g b w) (by subst eu; rfl) dX4_readsDigit_82 (fun H locs X => ?_)
              clear eu
              refine lv_aload_n hx hb dX4_readsDigit_85 rfl (lv_at hl 1 rfl) ?_
              refine lv_dup hx hb dX4_readsDigit_86 rfl ?_
              refine kget C X 0 (ci := 4) rfl rfl hinX4 4 (by decide) hf49 (v := .int (T_digits u4)) rfl dX4_readsDigit_87 ?_
              refine lv_iconst (v := 1) hx hb dX4_readsDigit_90 (by decide) ?_
              refine lv_iadd hx hb dX4_readsDigit_91 ?_
              obtain ⟨u5, eu⟩ : ∃ z, z = T_s_digits u4 ((T_digits u4) + 1) := ⟨_, rfl⟩
              have hm := lt_t eu hm
              refine kput C X 0 (ci := 4) rfl rfl hinX4 tyX4_ok nmX4 4 (by decide) hf49 rfl (ty := .int) (v := .int ((T_digits u4) + 1)) rfl rfl rfl (Nat.le_of_ble_eq_true rfl) (w2 := wT g a (b 0) u5 ++ wS g b w) (by subst eu; rfl) dX4_readsDigit_92 (fun H locs X => ?_)
              clear eu
              refine lv_iconst (v := 1) hx hb dX4_readsDigit_95 (by decide) ?_
              cases sm hm
              exact kzret rfl C X dX4_readsDigit_96
            · have hm := ifn hc hm
              refine lv_iconst (v := 0) hx hb dX4_readsDigit_78 (by decide) ?_
              cases sm hm
              exact kzret rfl C X dX4_readsDigit_79
      clear hm
      have hm := hE
      clear hE
      refine lv_icmp_ne (tgt := 58) hx hb dX4_readsDigit_50 (by decide) (fun hc => ?_) (fun hc => ?_)
      · have hm := ifn hc hm
        refine lv_bipush (v := 99) hx hb dX4_readsDigit_58 (by decide) ?_
        cases sm hm
        exact K _ _ _ X (lv_sub hl [1, 2, 3, 0] rfl)
      · have hm := ifp hc hm
        refine lv_bipush (v := 20) hx hb dX4_readsDigit_53 (by decide) ?_
        refine lv_goto (tgt := 60) hx hb dX4_readsDigit_55 (by decide) ?_
        cases sm hm
        exact K _ _ _ X (lv_sub hl [1, 2, 3, 0] rfl)
    clear hm
    have hm := hE
    clear hE
    refine lv_icmp_ne (tgt := 42) hx hb dX4_readsDigit_35 (by decide) (fun hc => ?_) (fun hc => ?_)
    · have hm := ifn hc hm
      refine lv_iconst (v := 0) hx hb dX4_readsDigit_42 (by decide) ?_
      cases sm hm
      exact K _ _ _ X (lv_sub hl [2, 1, 0] rfl)
    · have hm := ifp hc hm
      refine lv_iconst (v := 1) hx hb dX4_readsDigit_38 (by decide) ?_
      refine lv_goto (tgt := 43) hx hb dX4_readsDigit_39 (by decide) ?_
      cases sm hm
      exact K _ _ _ X (lv_sub hl [2, 1, 0] rfl)
  clear hm
  have hm := hE
  clear hE
  refine lv_if_le (tgt := 18) hx hb dX4_readsDigit_4 (by decide) (fun hc => ?_) (fun hc => ?_)
  · have hm := ifp hc hm
    refine lv_iconst (v := 0) hx hb dX4_readsDigit_18 (by decide) ?_
    cases sm hm
    exact K _ _ _ X (lv_sub hl [0, 1] rfl)
  · have hm := ifn hc hm
    refine lv_aload_n hx hb dX4_readsDigit_7 rfl (lv_at hl 0 rfl) ?_
    refine kget C X 0 (ci := 4) rfl rfl hinX4 5 (by decide) hf61 (v := .int (T_number u)) rfl dX4_readsDigit_8 ?_
    refine lv_if_ne (tgt := 18) hx hb dX4_readsDigit_11 (by decide) (fun hc => ?_) (fun hc => ?_)
    · have hm := ifn hc hm
      refine lv_iconst (v := 0) hx hb dX4_readsDigit_18 (by decide) ?_
      cases sm hm
      exact K _ _ _ X (lv_sub hl [0, 1] rfl)
    · have hm := ifp hc hm
      refine lv_iconst (v := 1) hx hb dX4_readsDigit_14 (by decide) ?_
      refine lv_goto (tgt := 19) hx hb dX4_readsDigit_15 (by decide) ?_
      cases sm hm
      exact K _ _ _ X (lv_sub hl [0, 1] rfl)
-- X4 BrushStrokes$StrokeText.endPoint()V
abbrev rX4_endPoint : Room := { frames := 2, cells := 0, slots := 0, locals := 48 }
theorem fl_X4_endPoint_18 : (Cond.fieldLink RX4 18 "BrushStrokes$StrokeText" "told" "LBrushStrokes$Stroke;") ∈ wsX4_endPoint := by decide +kernel
theorem fl_X4_endPoint_52 : (Cond.fieldLink RX4 52 "BrushStrokes$StrokeText" "part" "I") ∈ wsX4_endPoint := by decide +kernel
theorem fl_X4_endPoint_61 : (Cond.fieldLink RX4 61 "BrushStrokes$StrokeText" "number" "I") ∈ wsX4_endPoint := by decide +kernel
theorem fl_X4_endPoint_67 : (Cond.fieldLink RX4 67 "BrushStrokes$StrokeText" "x" "I") ∈ wsX4_endPoint := by decide +kernel
theorem fl_X4_endPoint_70 : (Cond.fieldLink RX4 70 "BrushStrokes$StrokeText" "y" "I") ∈ wsX4_endPoint := by decide +kernel
theorem in_X4_endPoint_X4 : ∀ w ∈ u_ws RX4 TX4 8, w ∈ wsX4_endPoint := by decide +kernel
theorem cw_X4_endPoint_X3_addPoint_73 {p : Program} {s : State} {m : MethodId} {args : Array Value} {meth : Method} {c : Code} {g : kG} {A : Nat → Prop} (C : CT g p s m args meth c RX4 cX4_endPoint 1 none wsX4_endPoint A) : CallW rX4_endPoint s args RX4 RX3 73 yX3_addPoint cX3_addPoint 4 none wsX3_addPoint rX3_addPoint 0 0 3 := cwV 3 C.2.2.2.2.2.1 gX4_endPoint_X3_addPoint rfl rfl rfl (by decide +kernel) ⟨Nat.le_of_ble_eq_true rfl, Nat.le_of_ble_eq_true rfl⟩
noncomputable def fX4_endPoint (u : TS) (w : SS) : Option (SS) := ((if (T_part u) = 2 then ((fX3_addPoint (T_x u) (T_y u) (T_number u) w).bind fun u5 => some u5) else ((fX3_addPoint (T_x u) (T_number u) 5 w).bind fun u4 => some u4)) : Option (SS)).bind fun u3 => some u3
set_option maxRecDepth 100000 in
set_option maxHeartbeats 4000000 in
theorem kX4_endPoint (l : Launch) (g : kG) (a : Nat → Nat) (b : Nat → Nat) (u : TS) (w : SS) (o1 : SS) (hm : fX4_endPoint u w = some o1) : KM l yX4_endPoint wsX4_endPoint rX4_endPoint g [.ref (a 0)] (wT g a (b 0) u ++ wS g b w) none (wT g a (b 0) u ++ wS g b o1) 0 0 := by
  refine KM.of (nL := 1) (by decide) rfl (Nat.le_of_ble_eq_true rfl) ?_
  intro p e s m args below meth c A ls C X hl
  have C : CT g p s m args meth c RX4 cX4_endPoint 1 none wsX4_endPoint A := C
  have hx := C.1
  have hb := C.2.1
  have hl : lv_has ls 1 [(0, .ref (a 0))] := hl
  have hinX4 := in_X4_endPoint_X4
  have hf18 := C.2.2.2.2.2.1 _ fl_X4_endPoint_18
  have hf52 := C.2.2.2.2.2.1 _ fl_X4_endPoint_52
  have hf61 := C.2.2.2.2.2.1 _ fl_X4_endPoint_61
  have hf67 := C.2.2.2.2.2.1 _ fl_X4_endPoint_67
  have hf70 := C.2.2.2.2.2.1 _ fl_X4_endPoint_70
  rw [fX4_endPoint] at hm
  refine lv_aload_n hx hb dX4_endPoint_0 rfl (lv_at hl 0 rfl) ?_
  refine kget C X 0 (ci := 4) rfl rfl hinX4 3 (by decide) hf52 (v := .int (T_part u)) rfl dX4_endPoint_1 ?_
  refine lv_iconst (v := 2) hx hb dX4_endPoint_4 (by decide) ?_
  obtain ⟨u3, hE, hm⟩ := bnd hm
  have K : ∀ (H : Heap) (locs : List Loc) (ls : Array Slot), ST g A s H locs (wT g a (b 0) u ++ wS g b u3) → lv_has ls 1 [] → W p l e rX4_endPoint s m args below meth c H locs 0 0 (kEnd g below args s none (wT g a (b 0) u ++ wS g b o1) A 0 0) (F0 m 46 ls []) := by
    intro H locs ls X hl
    clear hE
    cases sm hm
    exact kvret C X dX4_endPoint_46
  clear hm
  have hm := hE
  clear hE
  refine lv_icmp_ne (tgt := 30) hx hb dX4_endPoint_5 (by decide) (fun hc => ?_) (fun hc => ?_)
  · have hm := ifn hc hm
    refine lv_aload_n hx hb dX4_endPoint_30 rfl (lv_at hl 0 rfl) ?_
    refine kget C X 0 (ci := 4) rfl rfl hinX4 2 (by decide) hf18 (v := .ref (b 0)) rfl dX4_endPoint_31 ?_
    refine lv_aload_n hx hb dX4_endPoint_34 rfl (lv_at hl 0 rfl) ?_
    refine kget C X 0 (ci := 4) rfl rfl hinX4 6 (by decide) hf67 (v := .int (T_x u)) rfl dX4_endPoint_35 ?_
    refine lv_aload_n hx hb dX4_endPoint_38 rfl (lv_at hl 0 rfl) ?_
    refine kget C X 0 (ci := 4) rfl rfl hinX4 5 (by decide) hf61 (v := .int (T_number u)) rfl dX4_endPoint_39 ?_
    refine lv_iconst (v := 5) hx hb dX4_endPoint_42 (by decide) ?_
    obtain ⟨u4, hcl, hm⟩ := bnd hm
    refine kVF [2, 3] [0, 1] C X (kX3_addPoint l g b (T_x u) (T_number u) 5 w u4 hcl) (cw_X4_endPoint_X3_addPoint_73 C) 2 (ci := 3) rfl rfl rfl (by decide) rfl (by decide) (by decide) (As := [.int (T_x u), .int (T_number u), .int 5]) rfl hl (rest := []) rfl (Nat.le_of_ble_eq_true rfl) (st2 := []) rfl dX4_endPoint_43 ⟨Nat.le_of_ble_eq_true rfl, Nat.le_of_ble_eq_true rfl⟩ [0, 1, 2, 3] (by decide) (w3 := wT g a (b 0) u ++ wS g b u4) rfl (fun H locs X => ?_)
    clear hcl
    cases sm hm
    exact K _ _ _ X (lv_sub hl [] rfl)
  · have hm := ifp hc hm
    refine lv_aload_n hx hb dX4_endPoint_8 rfl (lv_at hl 0 rfl) ?_
    refine kget C X 0 (ci := 4) rfl rfl hinX4 2 (by decide) hf18 (v := .ref (b 0)) rfl dX4_endPoint_9 ?_
    refine lv_aload_n hx hb dX4_endPoint_12 rfl (lv_at hl 0 rfl) ?_
    refine kget C X 0 (ci := 4) rfl rfl hinX4 6 (by decide) hf67 (v := .int (T_x u)) rfl dX4_endPoint_13 ?_
    refine lv_aload_n hx hb dX4_endPoint_16 rfl (lv_at hl 0 rfl) ?_
    refine kget C X 0 (ci := 4) rfl rfl hinX4 7 (by decide) hf70 (v := .int (T_y u)) rfl dX4_endPoint_17 ?_
    refine lv_aload_n hx hb dX4_endPoint_20 rfl (lv_at hl 0 rfl) ?_
    refine kget C X 0 (ci := 4) rfl rfl hinX4 5 (by decide) hf61 (v := .int (T_number u)) rfl dX4_endPoint_21 ?_
    obtain ⟨u5, hcl, hm⟩ := bnd hm
    refine kVF [2, 3] [0, 1] C X (kX3_addPoint l g b (T_x u) (T_y u) (T_number u) w u5 hcl) (cw_X4_endPoint_X3_addPoint_73 C) 2 (ci := 3) rfl rfl rfl (by decide) rfl (by decide) (by decide) (As := [.int (T_x u), .int (T_y u), .int (T_number u)]) rfl hl (rest := []) rfl (Nat.le_of_ble_eq_true rfl) (st2 := []) rfl dX4_endPoint_24 ⟨Nat.le_of_ble_eq_true rfl, Nat.le_of_ble_eq_true rfl⟩ [0, 1, 2, 3] (by decide) (w3 := wT g a (b 0) u ++ wS g b u5) rfl (fun H locs X => ?_)
    clear hcl
    refine lv_goto (tgt := 46) hx hb dX4_endPoint_27 (by decide) ?_
    cases sm hm
    exact K _ _ _ X (lv_sub hl [] rfl)
-- X4 BrushStrokes$StrokeText.reads(I)Z
abbrev rX4_reads : Room := { frames := 3, cells := 0, slots := 0, locals := 68 }
theorem fl_X4_reads_18 : (Cond.fieldLink RX4 18 "BrushStrokes$StrokeText" "told" "LBrushStrokes$Stroke;") ∈ wsX4_reads := by decide +kernel
theorem fl_X4_reads_49 : (Cond.fieldLink RX4 49 "BrushStrokes$StrokeText" "digits" "I") ∈ wsX4_reads := by decide +kernel
theorem fl_X4_reads_52 : (Cond.fieldLink RX4 52 "BrushStrokes$StrokeText" "part" "I") ∈ wsX4_reads := by decide +kernel
theorem fl_X4_reads_61 : (Cond.fieldLink RX4 61 "BrushStrokes$StrokeText" "number" "I") ∈ wsX4_reads := by decide +kernel
theorem fl_X4_reads_67 : (Cond.fieldLink RX4 67 "BrushStrokes$StrokeText" "x" "I") ∈ wsX4_reads := by decide +kernel
theorem fl_X4_reads_70 : (Cond.fieldLink RX4 70 "BrushStrokes$StrokeText" "y" "I") ∈ wsX4_reads := by decide +kernel
theorem in_X4_reads_X4 : ∀ w ∈ u_ws RX4 TX4 8, w ∈ wsX4_reads := by decide +kernel
theorem cw_X4_reads_X3_size_58 {p : Program} {s : State} {m : MethodId} {args : Array Value} {meth : Method} {c : Code} {g : kG} {A : Nat → Prop} (C : CT g p s m args meth c RX4 cX4_reads 2 (some .boolean) wsX4_reads A) : CallW rX4_reads s args RX4 RX3 58 yX3_size cX3_size 1 (some .int) wsX3_size rX3_size 0 0 0 := cwV 0 C.2.2.2.2.2.1 gX4_reads_X3_size rfl rfl rfl (by decide +kernel) ⟨Nat.le_of_ble_eq_true rfl, Nat.le_of_ble_eq_true rfl⟩
theorem cw_X4_reads_X4_endPoint_55 {p : Program} {s : State} {m : MethodId} {args : Array Value} {meth : Method} {c : Code} {g : kG} {A : Nat → Prop} (C : CT g p s m args meth c RX4 cX4_reads 2 (some .boolean) wsX4_reads A) : CallW rX4_reads s args RX4 RX4 55 yX4_endPoint cX4_endPoint 1 none wsX4_endPoint rX4_endPoint 0 0 0 := cwV 0 C.2.2.2.2.2.1 gX4_reads_X4_endPoint rfl rfl rfl (by decide +kernel) ⟨Nat.le_of_ble_eq_true rfl, Nat.le_of_ble_eq_true rfl⟩
theorem cw_X4_reads_X4_beginPart_33 {p : Program} {s : State} {m : MethodId} {args : Array Value} {meth : Method} {c : Code} {g : kG} {A : Nat → Prop} (C : CT g p s m args meth c RX4 cX4_reads 2 (some .boolean) wsX4_reads A) : CallW rX4_reads s args RX4 RX4 33 yX4_beginPart cX4_beginPart 2 none wsX4_beginPart rX4_beginPart 0 0 1 := cwV 1 C.2.2.2.2.2.1 gX4_reads_X4_beginPart rfl rfl rfl (by decide +kernel) ⟨Nat.le_of_ble_eq_true rfl, Nat.le_of_ble_eq_true rfl⟩
theorem cw_X4_reads_X4_readsDigit_64 {p : Program} {s : State} {m : MethodId} {args : Array Value} {meth : Method} {c : Code} {g : kG} {A : Nat → Prop} (C : CT g p s m args meth c RX4 cX4_reads 2 (some .boolean) wsX4_reads A) : CallW rX4_reads s args RX4 RX4 64 yX4_readsDigit cX4_readsDigit 6 (some .boolean) wsX4_readsDigit rX4_readsDigit 0 0 1 := cwV 1 C.2.2.2.2.2.1 gX4_reads_X4_readsDigit rfl rfl rfl (by decide +kernel) ⟨Nat.le_of_ble_eq_true rfl, Nat.le_of_ble_eq_true rfl⟩
noncomputable def fX4_reads (p1 : Int32) (u : TS) (w : SS) : Option (Int32 × TS × SS) := if p1 < 48 then (if (T_digits u) = 0 then (some (0, u, w)) else (if p1 = 44 then (if (T_part u) = 0 then (lt (T_s_x u (T_number u)) fun u17 => (fX4_beginPart 1 u17 w).bind fun u18 => some (1, u18, w)) else (if p1 = 119 then (if (T_part u) = 1 then (lt (T_s_y u (T_number u)) fun u15 => (fX4_beginPart 2 u15 w).bind fun u16 => some (1, u16, w)) else (if p1 = 59 then (if (T_part u) = 0 then (some (0, u, w)) else ((fX3_size w).bind fun r12 => if 24 ≤ (r12 + 1) then (some (0, u, w)) else ((fX4_endPoint u w).bind fun u13 => (fX4_beginPart 0 u u13).bind fun u14 => some (1, u14, u13)))) else (some (0, u, w)))) else (if p1 = 59 then (if (T_part u) = 0 then (some (0, u, w)) else ((fX3_size w).bind fun r9 => if 24 ≤ (r9 + 1) then (some (0, u, w)) else ((fX4_endPoint u w).bind fun u10 => (fX4_beginPart 0 u u10).bind fun u11 => some (1, u11, u10)))) else (some (0, u, w))))) else (if p1 = 119 then (if (T_part u) = 1 then (lt (T_s_y u (T_number u)) fun u7 => (fX4_beginPart 2 u7 w).bind fun u8 => some (1, u8, w)) else (if p1 = 59 then (if (T_part u) = 0 then (some (0, u, w)) else ((fX3_size w).bind fun r4 => if 24 ≤ (r4 + 1) then (some (0, u, w)) else ((fX4_endPoint u w).bind fun u5 => (fX4_beginPart 0 u u5).bind fun u6 => some (1, u6, u5)))) else (some (0, u, w)))) else (if p1 = 59 then (if (T_part u) = 0 then (some (0, u, w)) else ((fX3_size w).bind fun r1 => if 24 ≤ (r1 + 1) then (some (0, u, w)) else ((fX4_endPoint u w).bind fun u2 => (fX4_beginPart 0 u u2).bind fun u3 => some (1, u3, u2)))) else (some (0, u, w)))))) else (if 57 < p1 then (if (T_digits u) = 0 then (some (0, u, w)) else (if p1 = 44 then (if (T_part u) = 0 then (lt (T_s_x u (T_number u)) fun u35 => (fX4_beginPart 1 u35 w).bind fun u36 => some (1, u36, w)) else (if p1 = 119 then (if (T_part u) = 1 then (lt (T_s_y u (T_number u)) fun u33 => (fX4_beginPart 2 u33 w).bind fun u34 => some (1, u34, w)) else (if p1 = 59 then (if (T_part u) = 0 then (some (0, u, w)) else ((fX3_size w).bind fun r30 => if 24 ≤ (r30 + 1) then (some (0, u, w)) else ((fX4_endPoint u w).bind fun u31 => (fX4_beginPart 0 u u31).bind fun u32 => some (1, u32, u31)))) else (some (0, u, w)))) else (if p1 = 59 then (if (T_part u) = 0 then (some (0, u, w)) else ((fX3_size w).bind fun r27 => if 24 ≤ (r27 + 1) then (some (0, u, w)) else ((fX4_endPoint u w).bind fun u28 => (fX4_beginPart 0 u u28).bind fun u29 => some (1, u29, u28)))) else (some (0, u, w))))) else (if p1 = 119 then (if (T_part u) = 1 then (lt (T_s_y u (T_number u)) fun u25 => (fX4_beginPart 2 u25 w).bind fun u26 => some (1, u26, w)) else (if p1 = 59 then (if (T_part u) = 0 then (some (0, u, w)) else ((fX3_size w).bind fun r22 => if 24 ≤ (r22 + 1) then (some (0, u, w)) else ((fX4_endPoint u w).bind fun u23 => (fX4_beginPart 0 u u23).bind fun u24 => some (1, u24, u23)))) else (some (0, u, w)))) else (if p1 = 59 then (if (T_part u) = 0 then (some (0, u, w)) else ((fX3_size w).bind fun r19 => if 24 ≤ (r19 + 1) then (some (0, u, w)) else ((fX4_endPoint u w).bind fun u20 => (fX4_beginPart 0 u u20).bind fun u21 => some (1, u21, u20)))) else (some (0, u, w)))))) else ((fX4_readsDigit (p1 - 48) u w).bind fun (r37, u38) => gd (isb r37) (some (r37, u38, w))))
set_option maxRecDepth 100000 in
set_option maxHeartbeats 4000000 in
theorem kX4_reads (l : Launch) (g : kG) (a : Nat → Nat) (b : Nat → Nat) (p1 : Int32) (u : TS) (w : SS) (o1 : Int32) (o2 : TS) (o3 : SS) (hm : fX4_reads p1 u w = some (o1, o2, o3)) : KM l yX4_reads wsX4_reads rX4_reads g [.ref (a 0), .int p1] (wT g a (b 0) u ++ wS g b w) (some (.int o1)) (wT g a (b 0) o2 ++ wS g b o3) 0 0 := by
  refine KM.of (nL := 2) (by decide) rfl (Nat.le_of_ble_eq_true rfl) ?_
  intro p e s m args below meth c A ls C X hl
  have C : CT g p s m args meth c RX4 cX4_reads 2 (some .boolean) wsX4_reads A := C
  have hx := C.1
  have hb := C.2.1
  have hl : lv_has ls 2 [(0, .ref (a 0)), (1, .int p1)] := hl
  have hinX4 := in_X4_reads_X4
  have hf18 := C.2.2.2.2.2.1 _ fl_X4_reads_18
  have hf49 := C.2.2.2.2.2.1 _ fl_X4_reads_49
  have hf52 := C.2.2.2.2.2.1 _ fl_X4_reads_52
  have hf61 := C.2.2.2.2.2.1 _ fl_X4_reads_61
  have hf67 := C.2.2.2.2.2.1 _ fl_X4_reads_67
  have hf70 := C.2.2.2.2.2.1 _ fl_X4_reads_70
  rw [fX4_reads] at hm
  refine lv_iload_n hx hb dX4_reads_0 rfl (lv_at hl 1 rfl) ?_
  refine lv_bipush (v := 48) hx hb dX4_reads_1 (by decide) ?_
  refine lv_icmp_lt (tgt := 21) hx hb dX4_reads_3 (by decide) (fun hc => ?_) (fun hc => ?_)
  · have hm := ifp hc hm
    refine lv_aload_n hx hb dX4_reads_21 rfl (lv_at hl 0 rfl) ?_
    refine kget C X 0 (ci := 4) rfl rfl hinX4 4 (by decide) hf49 (v := .int (T_digits u)) rfl dX4_reads_22 ?_
    refine lv_if_ne (tgt := 30) hx hb dX4_reads_25 (by decide) (fun hc => ?_) (fun hc => ?_)
    · have hm := ifn hc hm
      refine lv_iload_n hx hb dX4_reads_30 rfl (lv_at hl 1 rfl) ?_
      refine lv_bipush (v := 44) hx hb dX4_reads_31 (by decide) ?_
      refine lv_icmp_ne (tgt := 58) hx hb dX4_reads_33 (by decide) (fun hc => ?_) (fun hc => ?_)
      · have hm := ifn hc hm
        refine lv_iload_n hx hb dX4_reads_58 rfl (lv_at hl 1 rfl) ?_
        refine lv_bipush (v := 119) hx hb dX4_reads_59 (by decide) ?_
        refine lv_icmp_ne (tgt := 87) hx hb dX4_reads_61 (by decide) (fun hc => ?_) (fun hc => ?_)
        · have hm := ifn hc hm
          refine lv_iload_n hx hb dX4_reads_87 rfl (lv_at hl 1 rfl) ?_
          refine lv_bipush (v := 59) hx hb dX4_reads_88 (by decide) ?_
          refine lv_icmp_ne (tgt := 125) hx hb dX4_reads_90 (by decide) (fun hc => ?_) (fun hc => ?_)
          · have hm := ifn hc hm
            refine lv_iconst (v := 0) hx hb dX4_reads_125 (by decide) ?_
            cases sm hm
            exact kzret rfl C X dX4_reads_126
          · have hm := ifp hc hm
            refine lv_aload_n hx hb dX4_reads_93 rfl (lv_at hl 0 rfl) ?_
            refine kget C X 0 (ci := 4) rfl rfl hinX4 3 (by decide) hf52 (v := .int (T_part u)) rfl dX4_reads_94 ?_
            refine lv_if_eq (tgt := 125) hx hb dX4_reads_97 (by decide) (fun hc => ?_) (fun hc => ?_)
            · have hm := ifp hc hm
              refine lv_iconst (v := 0) hx hb dX4_reads_125 (by decide) ?_
              cases sm hm
              exact kzret rfl C X dX4_reads_126
            · have hm := ifn hc hm
              refine lv_aload_n hx hb dX4_reads_100 rfl (lv_at hl 0 rfl) ?_
              refine kget C X 0 (ci := 4) rfl rfl hinX4 2 (by decide) hf18 (v := .ref (b 0)) rfl dX4_reads_101 ?_
              obtain ⟨r1, hcl, hm⟩ := bnd hm
              refine kVF [2, 3] [0, 1] C X (kX3_size l g b w r1 hcl) (cw_X4_reads_X3_size_58 C) 2 (ci := 3) rfl rfl rfl (by decide) rfl (by decide) (by decide) (As := []) rfl hl (rest := []) rfl (Nat.le_of_ble_eq_true rfl) (st2 := [.int r1]) rfl dX4_reads_104 ⟨Nat.le_of_ble_eq_true rfl, Nat.le_of_ble_eq_true rfl⟩ [0, 1, 2, 3] (by decide) (w3 := wT g a (b 0) u ++ wS g b w) rfl (fun H locs X => ?_)
              clear hcl
              refine lv_iconst (v := 1) hx hb dX4_reads_107 (by decide) ?_
              refine lv_iadd hx hb dX4_reads_108 ?_
              refine lv_bipush (v := 24) hx hb dX4_reads_109 (by decide) ?_
              refine lv_icmp_ge (tgt := 125) hx hb dX4_reads_111 (by decide) (fun hc => ?_) (fun hc => ?_)
              · have hm := ifp hc hm
                refine lv_iconst (v := 0) hx hb dX4_reads_125 (by decide) ?_
                cases sm hm
                exact kzret rfl C X dX4_reads_126
              · have hm := ifn hc hm
                refine lv_aload_n hx hb dX4_reads_114 rfl (lv_at hl 0 rfl) ?_
                obtain ⟨u2, hcl, hm⟩ := bnd hm
                refine kVW C X (kX4_endPoint l g a b u w u2 hcl) (cw_X4_reads_X4_endPoint_55 C) 0 (ci := 4) rfl rfl (As := []) rfl hl (rest := []) rfl (Nat.le_of_ble_eq_true rfl) (st2 := []) rfl dX4_reads_115 ⟨Nat.le_of_ble_eq_true rfl, Nat.le_of_ble_eq_true rfl⟩ (fun H locs X => ?_)
                clear hcl
                refine lv_aload_n hx hb dX4_reads_118 rfl (lv_at hl 0 rfl) ?_
                refine lv_iconst (v := 0) hx hb dX4_reads_119 (by decide) ?_
                obtain ⟨u3, hcl, hm⟩ := bnd hm
                refine kVW C X (kX4_beginPart l g a b 0 u u2 u3 hcl) (cw_X4_reads_X4_beginPart_33 C) 0 (ci := 4) rfl rfl (As := [.int 0]) rfl hl (rest := []) rfl (Nat.le_of_ble_eq_true rfl) (st2 := []) rfl dX4_reads_120 ⟨Nat.le_of_ble_eq_true rfl, Nat.le_of_ble_eq_true rfl⟩ (fun H locs X => ?_)
                clear hcl
                refine lv_iconst (v := 1) hx hb dX4_reads_123 (by decide) ?_
                cases sm hm
                exact kzret rfl C X dX4_reads_124
        · have hm := ifp hc hm
          refine lv_aload_n hx hb dX4_reads_64 rfl (lv_at hl 0 rfl) ?_
          refine kget C X 0 (ci := 4) rfl rfl hinX4 3 (by decide) hf52 (v := .int (T_part u)) rfl dX4_reads_65 ?_
          refine lv_iconst (v := 1) hx hb dX4_reads_68 (by decide) ?_
          refine lv_icmp_ne (tgt := 87) hx hb dX4_reads_69 (by decide) (fun hc => ?_) (fun hc => ?_)
          · have hm := ifn hc hm
            refine lv_iload_n hx hb dX4_reads_87 rfl (lv_at hl 1 rfl) ?_
            refine lv_bipush (v := 59) hx hb dX4_reads_88 (by decide) ?_
            refine lv_icmp_ne (tgt := 125) hx hb dX4_reads_90 (by decide) (fun hc => ?_) (fun hc => ?_)
            · have hm := ifn hc hm
              refine lv_iconst (v := 0) hx hb dX4_reads_125 (by decide) ?_
              cases sm hm
              exact kzret rfl C X dX4_reads_126
            · have hm := ifp hc hm
              refine lv_aload_n hx hb dX4_reads_93 rfl (lv_at hl 0 rfl) ?_
              refine kget C X 0 (ci := 4) rfl rfl hinX4 3 (by decide) hf52 (v := .int (T_part u)) rfl dX4_reads_94 ?_
              refine lv_if_eq (tgt := 125) hx hb dX4_reads_97 (by decide) (fun hc => ?_) (fun hc => ?_)
              · have hm := ifp hc hm
                refine lv_iconst (v := 0) hx hb dX4_reads_125 (by decide) ?_
                cases sm hm
                exact kzret rfl C X dX4_reads_126
              · have hm := ifn hc hm
                refine lv_aload_n hx hb dX4_reads_100 rfl (lv_at hl 0 rfl) ?_
                refine kget C X 0 (ci := 4) rfl rfl hinX4 2 (by decide) hf18 (v := .ref (b 0)) rfl dX4_reads_101 ?_
                obtain ⟨r4, hcl, hm⟩ := bnd hm
                refine kVF [2, 3] [0, 1] C X (kX3_size l g b w r4 hcl) (cw_X4_reads_X3_size_58 C) 2 (ci := 3) rfl rfl rfl (by decide) rfl (by decide) (by decide) (As := []) rfl hl (rest := []) rfl (Nat.le_of_ble_eq_true rfl) (st2 := [.int r4]) rfl dX4_reads_104 ⟨Nat.le_of_ble_eq_true rfl, Nat.le_of_ble_eq_true rfl⟩ [0, 1, 2, 3] (by decide) (w3 := wT g a (b 0) u ++ wS g b w) rfl (fun H locs X => ?_)
                clear hcl
                refine lv_iconst (v := 1) hx hb dX4_reads_107 (by decide) ?_
                refine lv_iadd hx hb dX4_reads_108 ?_
                refine lv_bipush (v := 24) hx hb dX4_reads_109 (by decide) ?_
                refine lv_icmp_ge (tgt := 125) hx hb dX4_reads_111 (by decide) (fun hc => ?_) (fun hc => ?_)
                · have hm := ifp hc hm
                  refine lv_iconst (v := 0) hx hb dX4_reads_125 (by decide) ?_
                  cases sm hm
                  exact kzret rfl C X dX4_reads_126
                · have hm := ifn hc hm
                  refine lv_aload_n hx hb dX4_reads_114 rfl (lv_at hl 0 rfl) ?_
                  obtain ⟨u5, hcl, hm⟩ := bnd hm
                  refine kVW C X (kX4_endPoint l g a b u w u5 hcl) (cw_X4_reads_X4_endPoint_55 C) 0 (ci := 4) rfl rfl (As := []) rfl hl (rest := []) rfl (Nat.le_of_ble_eq_true rfl) (st2 := []) rfl dX4_reads_115 ⟨Nat.le_of_ble_eq_true rfl, Nat.le_of_ble_eq_true rfl⟩ (fun H locs X => ?_)
                  clear hcl
                  refine lv_aload_n hx hb dX4_reads_118 rfl (lv_at hl 0 rfl) ?_
                  refine lv_iconst (v := 0) hx hb dX4_reads_119 (by decide) ?_
                  obtain ⟨u6, hcl, hm⟩ := bnd hm
                  refine kVW C X (kX4_beginPart l g a b 0 u u5 u6 hcl) (cw_X4_reads_X4_beginPart_33 C) 0 (ci := 4) rfl rfl (As := [.int 0]) rfl hl (rest := []) rfl (Nat.le_of_ble_eq_true rfl) (st2 := []) rfl dX4_reads_120 ⟨Nat.le_of_ble_eq_true rfl, Nat.le_of_ble_eq_true rfl⟩ (fun H locs X => ?_)
                  clear hcl
                  refine lv_iconst (v := 1) hx hb dX4_reads_123 (by decide) ?_
                  cases sm hm
                  exact kzret rfl C X dX4_reads_124
          · have hm := ifp hc hm
            refine lv_aload_n hx hb dX4_reads_72 rfl (lv_at hl 0 rfl) ?_
            refine lv_aload_n hx hb dX4_reads_73 rfl (lv_at hl 0 rfl) ?_
            refine kget C X 0 (ci := 4) rfl rfl hinX4 5 (by decide) hf61 (v := .int (T_number u)) rfl dX4_reads_74 ?_
            obtain ⟨u7, eu⟩ : ∃ z, z = T_s_y u (T_number u) := ⟨_, rfl⟩
            have hm := lt_t eu hm
            refine kput C X 0 (ci := 4) rfl rfl hinX4 tyX4_ok nmX4 7 (by decide) hf70 rfl (ty := .int) (v := .int (T_number u)) rfl rfl rfl (Nat.le_of_ble_eq_true rfl) (w2 := wT g a (b 0) u7 ++ wS g b w) (by subst eu; rfl) dX4_reads_77 (fun H locs X => ?_)
            clear eu
            refine lv_aload_n hx hb dX4_reads_80 rfl (lv_at hl 0 rfl) ?_
            refine lv_iconst (v := 2) hx hb dX4_reads_81 (by decide) ?_
            obtain ⟨u8, hcl, hm⟩ := bnd hm
            refine kVW C X (kX4_beginPart l g a b 2 u7 w u8 hcl) (cw_X4_reads_X4_beginPart_33 C) 0 (ci := 4) rfl rfl (As := [.int 2]) rfl hl (rest := []) rfl (Nat.le_of_ble_eq_true rfl) (st2 := []) rfl dX4_reads_82 ⟨Nat.le_of_ble_eq_true rfl, Nat.le_of_ble_eq_true rfl⟩ (fun H locs X => ?_)
            clear hcl
            refine lv_iconst (v := 1) hx hb dX4_reads_85 (by decide) ?_
            cases sm hm
            exact kzret rfl C X dX4_reads_86
      · have hm := ifp hc hm
        refine lv_aload_n hx hb dX4_reads_36 rfl (lv_at hl 0 rfl) ?_
        refine kget C X 0 (ci := 4) rfl rfl hinX4 3 (by decide) hf52 (v := .int (T_part u)) rfl dX4_reads_37 ?_
        refine lv_if_ne (tgt := 58) hx hb dX4_reads_40 (by decide) (fun hc => ?_) (fun hc => ?_)
        · have hm := ifn hc hm
          refine lv_iload_n hx hb dX4_reads_58 rfl (lv_at hl 1 rfl) ?_
          refine lv_bipush (v := 119) hx hb dX4_reads_59 (by decide) ?_
          refine lv_icmp_ne (tgt := 87) hx hb dX4_reads_61 (by decide) (fun hc => ?_) (fun hc => ?_)
          · have hm := ifn hc hm
            refine lv_iload_n hx hb dX4_reads_87 rfl (lv_at hl 1 rfl) ?_
            refine lv_bipush (v := 59) hx hb dX4_reads_88 (by decide) ?_
            refine lv_icmp_ne (tgt := 125) hx hb dX4_reads_90 (by decide) (fun hc => ?_) (fun hc => ?_)
            · have hm := ifn hc hm
              refine lv_iconst (v := 0) hx hb dX4_reads_125 (by decide) ?_
              cases sm hm
              exact kzret rfl C X dX4_reads_126
            · have hm := ifp hc hm
              refine lv_aload_n hx hb dX4_reads_93 rfl (lv_at hl 0 rfl) ?_
              refine kget C X 0 (ci := 4) rfl rfl hinX4 3 (by decide) hf52 (v := .int (T_part u)) rfl dX4_reads_94 ?_
              refine lv_if_eq (tgt := 125) hx hb dX4_reads_97 (by decide) (fun hc => ?_) (fun hc => ?_)
              · have hm := ifp hc hm
                refine lv_iconst (v := 0) hx hb dX4_reads_125 (by decide) ?_
                cases sm hm
                exact kzret rfl C X dX4_reads_126
              · have hm := ifn hc hm
                refine lv_aload_n hx hb dX4_reads_100 rfl (lv_at hl 0 rfl) ?_
                refine kget C X 0 (ci := 4) rfl rfl hinX4 2 (by decide) hf18 (v := .ref (b 0)) rfl dX4_reads_101 ?_
                obtain ⟨r9, hcl, hm⟩ := bnd hm
                refine kVF [2, 3] [0, 1] C X (kX3_size l g b w r9 hcl) (cw_X4_reads_X3_size_58 C) 2 (ci := 3) rfl rfl rfl (by decide) rfl (by decide) (by decide) (As := []) rfl hl (rest := []) rfl (Nat.le_of_ble_eq_true rfl) (st2 := [.int r9]) rfl dX4_reads_104 ⟨Nat.le_of_ble_eq_true rfl, Nat.le_of_ble_eq_true rfl⟩ [0, 1, 2, 3] (by decide) (w3 := wT g a (b 0) u ++ wS g b w) rfl (fun H locs X => ?_)
                clear hcl
                refine lv_iconst (v := 1) hx hb dX4_reads_107 (by decide) ?_
                refine lv_iadd hx hb dX4_reads_108 ?_
                refine lv_bipush (v := 24) hx hb dX4_reads_109 (by decide) ?_
                refine lv_icmp_ge (tgt := 125) hx hb dX4_reads_111 (by decide) (fun hc => ?_) (fun hc => ?_)
                · have hm := ifp hc hm
                  refine lv_iconst (v := 0) hx hb dX4_reads_125 (by decide) ?_
                  cases sm hm
                  exact kzret rfl C X dX4_reads_126
                · have hm := ifn hc hm
                  refine lv_aload_n hx hb dX4_reads_114 rfl (lv_at hl 0 rfl) ?_
                  obtain ⟨u10, hcl, hm⟩ := bnd hm
                  refine kVW C X (kX4_endPoint l g a b u w u10 hcl) (cw_X4_reads_X4_endPoint_55 C) 0 (ci := 4) rfl rfl (As := []) rfl hl (rest := []) rfl (Nat.le_of_ble_eq_true rfl) (st2 := []) rfl dX4_reads_115 ⟨Nat.le_of_ble_eq_true rfl, Nat.le_of_ble_eq_true rfl⟩ (fun H locs X => ?_)
                  clear hcl
                  refine lv_aload_n hx hb dX4_reads_118 rfl (lv_at hl 0 rfl) ?_
                  refine lv_iconst (v := 0) hx hb dX4_reads_119 (by decide) ?_
                  obtain ⟨u11, hcl, hm⟩ := bnd hm
                  refine kVW C X (kX4_beginPart l g a b 0 u u10 u11 hcl) (cw_X4_reads_X4_beginPart_33 C) 0 (ci := 4) rfl rfl (As := [.int 0]) rfl hl (rest := []) rfl (Nat.le_of_ble_eq_true rfl) (st2 := []) rfl dX4_reads_120 ⟨Nat.le_of_ble_eq_true rfl, Nat.le_of_ble_eq_true rfl⟩ (fun H locs X => ?_)
                  clear hcl
                  refine lv_iconst (v := 1) hx hb dX4_reads_123 (by decide) ?_
                  cases sm hm
                  exact kzret rfl C X dX4_reads_124
          · have hm := ifp hc hm
            refine lv_aload_n hx hb dX4_reads_64 rfl (lv_at hl 0 rfl) ?_
            refine kget C X 0 (ci := 4) rfl rfl hinX4 3 (by decide) hf52 (v := .int (T_part u)) rfl dX4_reads_65 ?_
            refine lv_iconst (v := 1) hx hb dX4_reads_68 (by decide) ?_
            refine lv_icmp_ne (tgt := 87) hx hb dX4_reads_69 (by decide) (fun hc => ?_) (fun hc => ?_)
            · have hm := ifn hc hm
              refine lv_iload_n hx hb dX4_reads_87 rfl (lv_at hl 1 rfl) ?_
              refine lv_bipush (v := 59) hx hb dX4_reads_88 (by decide) ?_
              refine lv_icmp_ne (tgt := 125) hx hb dX4_reads_90 (by decide) (fun hc => ?_) (fun hc => ?_)
              · have hm := ifn hc hm
                refine lv_iconst (v := 0) hx hb dX4_reads_125 (by decide) ?_
                cases sm hm
                exact kzret rfl C X dX4_reads_126
              · have hm := ifp hc hm
                refine lv_aload_n hx hb dX4_reads_93 rfl (lv_at hl 0 rfl) ?_
                refine kget C X 0 (ci := 4) rfl rfl hinX4 3 (by decide) hf52 (v := .int (T_part u)) rfl dX4_reads_94 ?_
                refine lv_if_eq (tgt := 125) hx hb dX4_reads_97 (by decide) (fun hc => ?_) (fun hc => ?_)
                · have hm := ifp hc hm
                  refine lv_iconst (v := 0) hx hb dX4_reads_125 (by decide) ?_
                  cases sm hm
                  exact kzret rfl C X dX4_reads_126
                · have hm := ifn hc hm
                  refine lv_aload_n hx hb dX4_reads_100 rfl (lv_at hl 0 rfl) ?_
                  refine kget C X 0 (ci := 4) rfl rfl hinX4 2 (by decide) hf18 (v := .ref (b 0)) rfl dX4_reads_101 ?_
                  obtain ⟨r12, hcl, hm⟩ := bnd hm
                  refine kVF [2, 3] [0, 1] C X (kX3_size l g b w r12 hcl) (cw_X4_reads_X3_size_58 C) 2 (ci := 3) rfl rfl rfl (by decide) rfl (by decide) (by decide) (As := []) rfl hl (rest := []) rfl (Nat.le_of_ble_eq_true rfl) (st2 := [.int r12]) rfl dX4_reads_104 ⟨Nat.le_of_ble_eq_true rfl, Nat.le_of_ble_eq_true rfl⟩ [0, 1, 2, 3] (by decide) (w3 := wT g a (b 0) u ++ wS g b w) rfl (fun H locs X => ?_)
                  clear hcl
                  refine lv_iconst (v := 1) hx hb dX4_reads_107 (by decide) ?_
                  refine lv_iadd hx hb dX4_reads_108 ?_
                  refine lv_bipush (v := 24) hx hb dX4_reads_109 (by decide) ?_
                  refine lv_icmp_ge (tgt := 125) hx hb dX4_reads_111 (by decide) (fun hc => ?_) (fun hc => ?_)
                  · have hm := ifp hc hm
                    refine lv_iconst (v := 0) hx hb dX4_reads_125 (by decide) ?_
                    cases sm hm
                    exact kzret rfl C X dX4_reads_126
                  · have hm := ifn hc hm
                    refine lv_aload_n hx hb dX4_reads_114 rfl (lv_at hl 0 rfl) ?_
                    obtain ⟨u13, hcl, hm⟩ := bnd hm
                    refine kVW C X (kX4_endPoint l g a b u w u13 hcl) (cw_X4_reads_X4_endPoint_55 C) 0 (ci := 4) rfl rfl (As := []) rfl hl (rest := []) rfl (Nat.le_of_ble_eq_true rfl) (st2 := []) rfl dX4_reads_115 ⟨Nat.le_of_ble_eq_true rfl, Nat.le_of_ble_eq_true rfl⟩ (fun H locs X => ?_)
                    clear hcl
                    refine lv_aload_n hx hb dX4_reads_118 rfl (lv_at hl 0 rfl) ?_
                    refine lv_iconst (v := 0) hx hb dX4_reads_119 (by decide) ?_
                    obtain ⟨u14, hcl, hm⟩ := bnd hm
                    refine kVW C X (kX4_beginPart l g a b 0 u u13 u14 hcl) (cw_X4_reads_X4_beginPart_33 C) 0 (ci := 4) rfl rfl (As := [.int 0]) rfl hl (rest := []) rfl (Nat.le_of_ble_eq_true rfl) (st2 := []) rfl dX4_reads_120 ⟨Nat.le_of_ble_eq_true rfl, Nat.le_of_ble_eq_true rfl⟩ (fun H locs X => ?_)
                    clear hcl
                    refine lv_iconst (v := 1) hx hb dX4_reads_123 (by decide) ?_
                    cases sm hm
                    exact kzret rfl C X dX4_reads_124
            · have hm := ifp hc hm
              refine lv_aload_n hx hb dX4_reads_72 rfl (lv_at hl 0 rfl) ?_
              refine lv_aload_n hx hb dX4_reads_73 rfl (lv_at hl 0 rfl) ?_
              refine kget C X 0 (ci := 4) rfl rfl hinX4 5 (by decide) hf61 (v := .int (T_number u)) rfl dX4_reads_74 ?_
              obtain ⟨u15, eu⟩ : ∃ z, z = T_s_y u (T_number u) := ⟨_, rfl⟩
              have hm := lt_t eu hm
              refine kput C X 0 (ci := 4) rfl rfl hinX4 tyX4_ok nmX4 7 (by decide) hf70 rfl (ty := .int) (v := .int (T_number u)) rfl rfl rfl (Nat.le_of_ble_eq_true rfl) (w2 := wT g a (b 0) u15 ++ wS g b w) (by subst eu; rfl) dX4_reads_77 (fun H locs X => ?_)
              clear eu
              refine lv_aload_n hx hb dX4_reads_80 rfl (lv_at hl 0 rfl) ?_
              refine lv_iconst (v := 2) hx hb dX4_reads_81 (by decide) ?_
              obtain ⟨u16, hcl, hm⟩ := bnd hm
              refine kVW C X (kX4_beginPart l g a b 2 u15 w u16 hcl) (cw_X4_reads_X4_beginPart_33 C) 0 (ci := 4) rfl rfl (As := [.int 2]) rfl hl (rest := []) rfl (Nat.le_of_ble_eq_true rfl) (st2 := []) rfl dX4_reads_82 ⟨Nat.le_of_ble_eq_true rfl, Nat.le_of_ble_eq_true rfl⟩ (fun H locs X => ?_)
              clear hcl
              refine lv_iconst (v := 1) hx hb dX4_reads_85 (by decide) ?_
              cases sm hm
              exact kzret rfl C X dX4_reads_86
        · have hm := ifp hc hm
          refine lv_aload_n hx hb dX4_reads_43 rfl (lv_at hl 0 rfl) ?_
          refine lv_aload_n hx hb dX4_reads_44 rfl (lv_at hl 0 rfl) ?_
          refine kget C X 0 (ci := 4) rfl rfl hinX4 5 (by decide) hf61 (v := .int (T_number u)) rfl dX4_reads_45 ?_
          obtain ⟨u17, eu⟩ : ∃ z, z = T_s_x u (T_number u) := ⟨_, rfl⟩
          have hm := lt_t eu hm
          refine kput C X 0 (ci := 4) rfl rfl hinX4 tyX4_ok nmX4 6 (by decide) hf67 rfl (ty := .int) (v := .int (T_number u)) rfl rfl rfl (Nat.le_of_ble_eq_true rfl) (w2 := wT g a (b 0) u17 ++ wS g b w) (by subst eu; rfl) dX4_reads_48 (fun H locs X => ?_)
          clear eu
          refine lv_aload_n hx hb dX4_reads_51 rfl (lv_at hl 0 rfl) ?_
          refine lv_iconst (v := 1) hx hb dX4_reads_52 (by decide) ?_
          obtain ⟨u18, hcl, hm⟩ := bnd hm
          refine kVW C X (kX4_beginPart l g a b 1 u17 w u18 hcl) (cw_X4_reads_X4_beginPart_33 C) 0 (ci := 4) rfl rfl (As := [.int 1]) rfl hl (rest := []) rfl (Nat.le_of_ble_eq_true rfl) (st2 := []) rfl dX4_reads_53 ⟨Nat.le_of_ble_eq_true rfl, Nat.le_of_ble_eq_true rfl⟩ (fun H locs X => ?_)
          clear hcl
          refine lv_iconst (v := 1) hx hb dX4_reads_56 (by decide) ?_
          cases sm hm
          exact kzret rfl C X dX4_reads_57
    · have hm := ifp hc hm
      refine lv_iconst (v := 0) hx hb dX4_reads_28 (by decide) ?_
      cases sm hm
      exact kzret rfl C X dX4_reads_29
  · have hm := ifn hc hm
    refine lv_iload_n hx hb dX4_reads_6 rfl (lv_at hl 1 rfl) ?_
    refine lv_bipush (v := 57) hx hb dX4_reads_7 (by decide) ?_
    refine lv_icmp_gt (tgt := 21) hx hb dX4_reads_9 (by decide) (fun hc => ?_) (fun hc => ?_)
    · have hm := ifp hc hm
      refine lv_aload_n hx hb dX4_reads_21 rfl (lv_at hl 0 rfl) ?_
      refine kget C X 0 (ci := 4) rfl rfl hinX4 4 (by decide) hf49 (v := .int (T_digits u)) rfl dX4_reads_22 ?_
      refine lv_if_ne (tgt := 30) hx hb dX4_reads_25 (by decide) (fun hc => ?_) (fun hc => ?_)
      · have hm := ifn hc hm
        refine lv_iload_n hx hb dX4_reads_30 rfl (lv_at hl 1 rfl) ?_
        refine lv_bipush (v := 44) hx hb dX4_reads_31 (by decide) ?_
        refine lv_icmp_ne (tgt := 58) hx hb dX4_reads_33 (by decide) (fun hc => ?_) (fun hc => ?_)
        · have hm := ifn hc hm
          refine lv_iload_n hx hb dX4_reads_58 rfl (lv_at hl 1 rfl) ?_
          refine lv_bipush (v := 119) hx hb dX4_reads_59 (by decide) ?_
          refine lv_icmp_ne (tgt := 87) hx hb dX4_reads_61 (by decide) (fun hc => ?_) (fun hc => ?_)
          · have hm := ifn hc hm
            refine lv_iload_n hx hb dX4_reads_87 rfl (lv_at hl 1 rfl) ?_
            refine lv_bipush (v := 59) hx hb dX4_reads_88 (by decide) ?_
            refine lv_icmp_ne (tgt := 125) hx hb dX4_reads_90 (by decide) (fun hc => ?_) (fun hc => ?_)
            · have hm := ifn hc hm
              refine lv_iconst (v := 0) hx hb dX4_reads_125 (by decide) ?_
              cases sm hm
              exact kzret rfl C X dX4_reads_126
            · have hm := ifp hc hm
              refine lv_aload_n hx hb dX4_reads_93 rfl (lv_at hl 0 rfl) ?_
              refine kget C X 0 (ci := 4) rfl rfl hinX4 3 (by decide) hf52 (v := .int (T_part u)) rfl dX4_reads_94 ?_
              refine lv_if_eq (tgt := 125) hx hb dX4_reads_97 (by decide) (fun hc => ?_) (fun hc => ?_)
              · have hm := ifp hc hm
                refine lv_iconst (v := 0) hx hb dX4_reads_125 (by decide) ?_
                cases sm hm
                exact kzret rfl C X dX4_reads_126
              · have hm := ifn hc hm
                refine lv_aload_n hx hb dX4_reads_100 rfl (lv_at hl 0 rfl) ?_
                refine kget C X 0 (ci := 4) rfl rfl hinX4 2 (by decide) hf18 (v := .ref (b 0)) rfl dX4_reads_101 ?_
                obtain ⟨r19, hcl, hm⟩ := bnd hm
                refine kVF [2, 3] [0, 1] C X (kX3_size l g b w r19 hcl) (cw_X4_reads_X3_size_58 C) 2 (ci := 3) rfl rfl rfl (by decide) rfl (by decide) (by decide) (As := []) rfl hl (rest := []) rfl (Nat.le_of_ble_eq_true rfl) (st2 := [.int r19]) rfl dX4_reads_104 ⟨Nat.le_of_ble_eq_true rfl, Nat.le_of_ble_eq_true rfl⟩ [0, 1, 2, 3] (by decide) (w3 := wT g a (b 0) u ++ wS g b w) rfl (fun H locs X => ?_)
                clear hcl
                refine lv_iconst (v := 1) hx hb dX4_reads_107 (by decide) ?_
                refine lv_iadd hx hb dX4_reads_108 ?_
                refine lv_bipush (v := 24) hx hb dX4_reads_109 (by decide) ?_
                refine lv_icmp_ge (tgt := 125) hx hb dX4_reads_111 (by decide) (fun hc => ?_) (fun hc => ?_)
                · have hm := ifp hc hm
                  refine lv_iconst (v := 0) hx hb dX4_reads_125 (by decide) ?_
                  cases sm hm
                  exact kzret rfl C X dX4_reads_126
                · have hm := ifn hc hm
                  refine lv_aload_n hx hb dX4_reads_114 rfl (lv_at hl 0 rfl) ?_
                  obtain ⟨u20, hcl, hm⟩ := bnd hm
                  refine kVW C X (kX4_endPoint l g a b u w u20 hcl) (cw_X4_reads_X4_endPoint_55 C) 0 (ci := 4) rfl rfl (As := []) rfl hl (rest := []) rfl (Nat.le_of_ble_eq_true rfl) (st2 := []) rfl dX4_reads_115 ⟨Nat.le_of_ble_eq_true rfl, Nat.le_of_ble_eq_true rfl⟩ (fun H locs X => ?_)
                  clear hcl
                  refine lv_aload_n hx hb dX4_reads_118 rfl (lv_at hl 0 rfl) ?_
                  refine lv_iconst (v := 0) hx hb dX4_reads_119 (by decide) ?_
                  obtain ⟨u21, hcl, hm⟩ := bnd hm
                  refine kVW C X (kX4_beginPart l g a b 0 u u20 u21 hcl) (cw_X4_reads_X4_beginPart_33 C) 0 (ci := 4) rfl rfl (As := [.int 0]) rfl hl (rest := []) rfl (Nat.le_of_ble_eq_true rfl) (st2 := []) rfl dX4_reads_120 ⟨Nat.le_of_ble_eq_true rfl, Nat.le_of_ble_eq_true rfl⟩ (fun H locs X => ?_)
                  clear hcl
                  refine lv_iconst (v := 1) hx hb dX4_reads_123 (by decide) ?_
                  cases sm hm
                  exact kzret rfl C X dX4_reads_124
          · have hm := ifp hc hm
            refine lv_aload_n hx hb dX4_reads_64 rfl (lv_at hl 0 rfl) ?_
            refine kget C X 0 (ci := 4) rfl rfl hinX4 3 (by decide) hf52 (v := .int (T_part u)) rfl dX4_reads_65 ?_
            refine lv_iconst (v := 1) hx hb dX4_reads_68 (by decide) ?_
            refine lv_icmp_ne (tgt := 87) hx hb dX4_reads_69 (by decide) (fun hc => ?_) (fun hc => ?_)
            · have hm := ifn hc hm
              refine lv_iload_n hx hb dX4_reads_87 rfl (lv_at hl 1 rfl) ?_
              refine lv_bipush (v := 59) hx hb dX4_reads_88 (by decide) ?_
              refine lv_icmp_ne (tgt := 125) hx hb dX4_reads_90 (by decide) (fun hc => ?_) (fun hc => ?_)
              · have hm := ifn hc hm
                refine lv_iconst (v := 0) hx hb dX4_reads_125 (by decide) ?_
                cases sm hm
                exact kzret rfl C X dX4_reads_126
              · have hm := ifp hc hm
                refine lv_aload_n hx hb dX4_reads_93 rfl (lv_at hl 0 rfl) ?_
                refine kget C X 0 (ci := 4) rfl rfl hinX4 3 (by decide) hf52 (v := .int (T_part u)) rfl dX4_reads_94 ?_
                refine lv_if_eq (tgt := 125) hx hb dX4_reads_97 (by decide) (fun hc => ?_) (fun hc => ?_)
                · have hm := ifp hc hm
                  refine lv_iconst (v := 0) hx hb dX4_reads_125 (by decide) ?_
                  cases sm hm
                  exact kzret rfl C X dX4_reads_126
                · have hm := ifn hc hm
                  refine lv_aload_n hx hb dX4_reads_100 rfl (lv_at hl 0 rfl) ?_
                  refine kget C X 0 (ci := 4) rfl rfl hinX4 2 (by decide) hf18 (v := .ref (b 0)) rfl dX4_reads_101 ?_
                  obtain ⟨r22, hcl, hm⟩ := bnd hm
                  refine kVF [2, 3] [0, 1] C X (kX3_size l g b w r22 hcl) (cw_X4_reads_X3_size_58 C) 2 (ci := 3) rfl rfl rfl (by decide) rfl (by decide) (by decide) (As := []) rfl hl (rest := []) rfl (Nat.le_of_ble_eq_true rfl) (st2 := [.int r22]) rfl dX4_reads_104 ⟨Nat.le_of_ble_eq_true rfl, Nat.le_of_ble_eq_true rfl⟩ [0, 1, 2, 3] (by decide) (w3 := wT g a (b 0) u ++ wS g b w) rfl (fun H locs X => ?_)
                  clear hcl
                  refine lv_iconst (v := 1) hx hb dX4_reads_107 (by decide) ?_
                  refine lv_iadd hx hb dX4_reads_108 ?_
                  refine lv_bipush (v := 24) hx hb dX4_reads_109 (by decide) ?_
                  refine lv_icmp_ge (tgt := 125) hx hb dX4_reads_111 (by decide) (fun hc => ?_) (fun hc => ?_)
                  · have hm := ifp hc hm
                    refine lv_iconst (v := 0) hx hb dX4_reads_125 (by decide) ?_
                    cases sm hm
                    exact kzret rfl C X dX4_reads_126
                  · have hm := ifn hc hm
                    refine lv_aload_n hx hb dX4_reads_114 rfl (lv_at hl 0 rfl) ?_
                    obtain ⟨u23, hcl, hm⟩ := bnd hm
                    refine kVW C X (kX4_endPoint l g a b u w u23 hcl) (cw_X4_reads_X4_endPoint_55 C) 0 (ci := 4) rfl rfl (As := []) rfl hl (rest := []) rfl (Nat.le_of_ble_eq_true rfl) (st2 := []) rfl dX4_reads_115 ⟨Nat.le_of_ble_eq_true rfl, Nat.le_of_ble_eq_true rfl⟩ (fun H locs X => ?_)
                    clear hcl
                    refine lv_aload_n hx hb dX4_reads_118 rfl (lv_at hl 0 rfl) ?_
                    refine lv_iconst (v := 0) hx hb dX4_reads_119 (by decide) ?_
                    obtain ⟨u24, hcl, hm⟩ := bnd hm
                    refine kVW C X (kX4_beginPart l g a b 0 u u23 u24 hcl) (cw_X4_reads_X4_beginPart_33 C) 0 (ci := 4) rfl rfl (As := [.int 0]) rfl hl (rest := []) rfl (Nat.le_of_ble_eq_true rfl) (st2 := []) rfl dX4_reads_120 ⟨Nat.le_of_ble_eq_true rfl, Nat.le_of_ble_eq_true rfl⟩ (fun H locs X => ?_)
                    clear hcl
                    refine lv_iconst (v := 1) hx hb dX4_reads_123 (by decide) ?_
                    cases sm hm
                    exact kzret rfl C X dX4_reads_124
            · have hm := ifp hc hm
              refine lv_aload_n hx hb dX4_reads_72 rfl (lv_at hl 0 rfl) ?_
              refine lv_aload_n hx hb dX4_reads_73 rfl (lv_at hl 0 rfl) ?_
              refine kget C X 0 (ci := 4) rfl rfl hinX4 5 (by decide) hf61 (v := .int (T_number u)) rfl dX4_reads_74 ?_
              obtain ⟨u25, eu⟩ : ∃ z, z = T_s_y u (T_number u) := ⟨_, rfl⟩
              have hm := lt_t eu hm
              refine kput C X 0 (ci := 4) rfl rfl hinX4 tyX4_ok nmX4 7 (by decide) hf70 rfl (ty := .int) (v := .int (T_number u)) rfl rfl rfl (Nat.le_of_ble_eq_true rfl) (w2 := wT g a (b 0) u25 ++ wS g b w) (by subst eu; rfl) dX4_reads_77 (fun H locs X => ?_)
              clear eu
              refine lv_aload_n hx hb dX4_reads_80 rfl (lv_at hl 0 rfl) ?_
              refine lv_iconst (v := 2) hx hb dX4_reads_81 (by decide) ?_
              obtain ⟨u26, hcl, hm⟩ := bnd hm
              refine kVW C X (kX4_beginPart l g a b 2 u25 w u26 hcl) (cw_X4_reads_X4_beginPart_33 C) 0 (ci := 4) rfl rfl (As := [.int 2]) rfl hl (rest := []) rfl (Nat.le_of_ble_eq_true rfl) (st2 := []) rfl dX4_reads_82 ⟨Nat.le_of_ble_eq_true rfl, Nat.le_of_ble_eq_true rfl⟩ (fun H locs X => ?_)
              clear hcl
              refine lv_iconst (v := 1) hx hb dX4_reads_85 (by decide) ?_
              cases sm hm
              exact kzret rfl C X dX4_reads_86
        · have hm := ifp hc hm
          refine lv_aload_n hx hb dX4_reads_36 rfl (lv_at hl 0 rfl) ?_
          refine kget C X 0 (ci := 4) rfl rfl hinX4 3 (by decide) hf52 (v := .int (T_part u)) rfl dX4_reads_37 ?_
          refine lv_if_ne (tgt := 58) hx hb dX4_reads_40 (by decide) (fun hc => ?_) (fun hc => ?_)
          · have hm := ifn hc hm
            refine lv_iload_n hx hb dX4_reads_58 rfl (lv_at hl 1 rfl) ?_
            refine lv_bipush (v := 119) hx hb dX4_reads_59 (by decide) ?_
            refine lv_icmp_ne (tgt := 87) hx hb dX4_reads_61 (by decide) (fun hc => ?_) (fun hc => ?_)
            · have hm := ifn hc hm
              refine lv_iload_n hx hb dX4_reads_87 rfl (lv_at hl 1 rfl) ?_
              refine lv_bipush (v := 59) hx hb dX4_reads_88 (by decide) ?_
              refine lv_icmp_ne (tgt := 125) hx hb dX4_reads_90 (by decide) (fun hc => ?_) (fun hc => ?_)
              · have hm := ifn hc hm
                refine lv_iconst (v := 0) hx hb dX4_reads_125 (by decide) ?_
                cases sm hm
                exact kzret rfl C X dX4_reads_126
              · have hm := ifp hc hm
                refine lv_aload_n hx hb dX4_reads_93 rfl (lv_at hl 0 rfl) ?_
                refine kget C X 0 (ci := 4) rfl rfl hinX4 3 (by decide) hf52 (v := .int (T_part u)) rfl dX4_reads_94 ?_
                refine lv_if_eq (tgt := 125) hx hb dX4_reads_97 (by decide) (fun hc => ?_) (fun hc => ?_)
                · have hm := ifp hc hm
                  refine lv_iconst (v := 0) hx hb dX4_reads_125 (by decide) ?_
                  cases sm hm
                  exact kzret rfl C X dX4_reads_126
                · have hm := ifn hc hm
                  refine lv_aload_n hx hb dX4_reads_100 rfl (lv_at hl 0 rfl) ?_
                  refine kget C X 0 (ci := 4) rfl rfl hinX4 2 (by decide) hf18 (v := .ref (b 0)) rfl dX4_reads_101 ?_
                  obtain ⟨r27, hcl, hm⟩ := bnd hm
                  refine kVF [2, 3] [0, 1] C X (kX3_size l g b w r27 hcl) (cw_X4_reads_X3_size_58 C) 2 (ci := 3) rfl rfl rfl (by decide) rfl (by decide) (by decide) (As := []) rfl hl (rest := []) rfl (Nat.le_of_ble_eq_true rfl) (st2 := [.int r27]) rfl dX4_reads_104 ⟨Nat.le_of_ble_eq_true rfl, Nat.le_of_ble_eq_true rfl⟩ [0, 1, 2, 3] (by decide) (w3 := wT g a (b 0) u ++ wS g b w) rfl (fun H locs X => ?_)
                  clear hcl
                  refine lv_iconst (v := 1) hx hb dX4_reads_107 (by decide) ?_
                  refine lv_iadd hx hb dX4_reads_108 ?_
                  refine lv_bipush (v := 24) hx hb dX4_reads_109 (by decide) ?_
                  refine lv_icmp_ge (tgt := 125) hx hb dX4_reads_111 (by decide) (fun hc => ?_) (fun hc => ?_)
                  · have hm := ifp hc hm
                    refine lv_iconst (v := 0) hx hb dX4_reads_125 (by decide) ?_
                    cases sm hm
                    exact kzret rfl C X dX4_reads_126
                  · have hm := ifn hc hm
                    refine lv_aload_n hx hb dX4_reads_114 rfl (lv_at hl 0 rfl) ?_
                    obtain ⟨u28, hcl, hm⟩ := bnd hm
                    refine kVW C X (kX4_endPoint l g a b u w u28 hcl) (cw_X4_reads_X4_endPoint_55 C) 0 (ci := 4) rfl rfl (As := []) rfl hl (rest := []) rfl (Nat.le_of_ble_eq_true rfl) (st2 := []) rfl dX4_reads_115 ⟨Nat.le_of_ble_eq_true rfl, Nat.le_of_ble_eq_true rfl⟩ (fun H locs X => ?_)
                    clear hcl
                    refine lv_aload_n hx hb dX4_reads_118 rfl (lv_at hl 0 rfl) ?_
                    refine lv_iconst (v := 0) hx hb dX4_reads_119 (by decide) ?_
                    obtain ⟨u29, hcl, hm⟩ := bnd hm
                    refine kVW C X (kX4_beginPart l g a b 0 u u28 u29 hcl) (cw_X4_reads_X4_beginPart_33 C) 0 (ci := 4) rfl rfl (As := [.int 0]) rfl hl (rest := []) rfl (Nat.le_of_ble_eq_true rfl) (st2 := []) rfl dX4_reads_120 ⟨Nat.le_of_ble_eq_true rfl, Nat.le_of_ble_eq_true rfl⟩ (fun H locs X => ?_)
                    clear hcl
                    refine lv_iconst (v := 1) hx hb dX4_reads_123 (by decide) ?_
                    cases sm hm
                    exact kzret rfl C X dX4_reads_124
            · have hm := ifp hc hm
              refine lv_aload_n hx hb dX4_reads_64 rfl (lv_at hl 0 rfl) ?_
              refine kget C X 0 (ci := 4) rfl rfl hinX4 3 (by decide) hf52 (v := .int (T_part u)) rfl dX4_reads_65 ?_
              refine lv_iconst (v := 1) hx hb dX4_reads_68 (by decide) ?_
              refine lv_icmp_ne (tgt := 87) hx hb dX4_reads_69 (by decide) (fun hc => ?_) (fun hc => ?_)
              · have hm := ifn hc hm
                refine lv_iload_n hx hb dX4_reads_87 rfl (lv_at hl 1 rfl) ?_
                refine lv_bipush (v := 59) hx hb dX4_reads_88 (by decide) ?_
                refine lv_icmp_ne (tgt := 125) hx hb dX4_reads_90 (by decide) (fun hc => ?_) (fun hc => ?_)
                · have hm := ifn hc hm
                  refine lv_iconst (v := 0) hx hb dX4_reads_125 (by decide) ?_
                  cases sm hm
                  exact kzret rfl C X dX4_reads_126
                · have hm := ifp hc hm
                  refine lv_aload_n hx hb dX4_reads_93 rfl (lv_at hl 0 rfl) ?_
                  refine kget C X 0 (ci := 4) rfl rfl hinX4 3 (by decide) hf52 (v := .int (T_part u)) rfl dX4_reads_94 ?_
                  refine lv_if_eq (tgt := 125) hx hb dX4_reads_97 (by decide) (fun hc => ?_) (fun hc => ?_)
                  · have hm := ifp hc hm
                    refine lv_iconst (v := 0) hx hb dX4_reads_125 (by decide) ?_
                    cases sm hm
                    exact kzret rfl C X dX4_reads_126
                  · have hm := ifn hc hm
                    refine lv_aload_n hx hb dX4_reads_100 rfl (lv_at hl 0 rfl) ?_
                    refine kget C X 0 (ci := 4) rfl rfl hinX4 2 (by decide) hf18 (v := .ref (b 0)) rfl dX4_reads_101 ?_
                    obtain ⟨r30, hcl, hm⟩ := bnd hm
                    refine kVF [2, 3] [0, 1] C X (kX3_size l g b w r30 hcl) (cw_X4_reads_X3_size_58 C) 2 (ci := 3) rfl rfl rfl (by decide) rfl (by decide) (by decide) (As := []) rfl hl (rest := []) rfl (Nat.le_of_ble_eq_true rfl) (st2 := [.int r30]) rfl dX4_reads_104 ⟨Nat.le_of_ble_eq_true rfl, Nat.le_of_ble_eq_true rfl⟩ [0, 1, 2, 3] (by decide) (w3 := wT g a (b 0) u ++ wS g b w) rfl (fun H locs X => ?_)
                    clear hcl
                    refine lv_iconst (v := 1) hx hb dX4_reads_107 (by decide) ?_
                    refine lv_iadd hx hb dX4_reads_108 ?_
                    refine lv_bipush (v := 24) hx hb dX4_reads_109 (by decide) ?_
                    refine lv_icmp_ge (tgt := 125) hx hb dX4_reads_111 (by decide) (fun hc => ?_) (fun hc => ?_)
                    · have hm := ifp hc hm
                      refine lv_iconst (v := 0) hx hb dX4_reads_125 (by decide) ?_
                      cases sm hm
                      exact kzret rfl C X dX4_reads_126
                    · have hm := ifn hc hm
                      refine lv_aload_n hx hb dX4_reads_114 rfl (lv_at hl 0 rfl) ?_
                      obtain ⟨u31, hcl, hm⟩ := bnd hm
                      refine kVW C X (kX4_endPoint l g a b u w u31 hcl) (cw_X4_reads_X4_endPoint_55 C) 0 (ci := 4) rfl rfl (As := []) rfl hl (rest := []) rfl (Nat.le_of_ble_eq_true rfl) (st2 := []) rfl dX4_reads_115 ⟨Nat.le_of_ble_eq_true rfl, Nat.le_of_ble_eq_true rfl⟩ (fun H locs X => ?_)
                      clear hcl
                      refine lv_aload_n hx hb dX4_reads_118 rfl (lv_at hl 0 rfl) ?_
                      refine lv_iconst (v := 0) hx hb dX4_reads_119 (by decide) ?_
                      obtain ⟨u32, hcl, hm⟩ := bnd hm
                      refine kVW C X (kX4_beginPart l g a b 0 u u31 u32 hcl) (cw_X4_reads_X4_beginPart_33 C) 0 (ci := 4) rfl rfl (As := [.int 0]) rfl hl (rest := []) rfl (Nat.le_of_ble_eq_true rfl) (st2 := []) rfl dX4_reads_120 ⟨Nat.le_of_ble_eq_true rfl, Nat.le_of_ble_eq_true rfl⟩ (fun H locs X => ?_)
                      clear hcl
                      refine lv_iconst (v := 1) hx hb dX4_reads_123 (by decide) ?_
                      cases sm hm
                      exact kzret rfl C X dX4_reads_124
              · have hm := ifp hc hm
                refine lv_aload_n hx hb dX4_reads_72 rfl (lv_at hl 0 rfl) ?_
                refine lv_aload_n hx hb dX4_reads_73 rfl (lv_at hl 0 rfl) ?_
                refine kget C X 0 (ci := 4) rfl rfl hinX4 5 (by decide) hf61 (v := .int (T_number u)) rfl dX4_reads_74 ?_
                obtain ⟨u33, eu⟩ : ∃ z, z = T_s_y u (T_number u) := ⟨_, rfl⟩
                have hm := lt_t eu hm
                refine kput C X 0 (ci := 4) rfl rfl hinX4 tyX4_ok nmX4 7 (by decide) hf70 rfl (ty := .int) (v := .int (T_number u)) rfl rfl rfl (Nat.le_of_ble_eq_true rfl) (w2 := wT g a (b 0) u33 ++ wS g b w) (by subst eu; rfl) dX4_reads_77 (fun H locs X => ?_)
                clear eu
                refine lv_aload_n hx hb dX4_reads_80 rfl (lv_at hl 0 rfl) ?_
                refine lv_iconst (v := 2) hx hb dX4_reads_81 (by decide) ?_
                obtain ⟨u34, hcl, hm⟩ := bnd hm
                refine kVW C X (kX4_beginPart l g a b 2 u33 w u34 hcl) (cw_X4_reads_X4_beginPart_33 C) 0 (ci := 4) rfl rfl (As := [.int 2]) rfl hl (rest := []) rfl (Nat.le_of_ble_eq_true rfl) (st2 := []) rfl dX4_reads_82 ⟨Nat.le_of_ble_eq_true rfl, Nat.le_of_ble_eq_true rfl⟩ (fun H locs X => ?_)
                clear hcl
                refine lv_iconst (v := 1) hx hb dX4_reads_85 (by decide) ?_
                cases sm hm
                exact kzret rfl C X dX4_reads_86
          · have hm := ifp hc hm
            refine lv_aload_n hx hb dX4_reads_43 rfl (lv_at hl 0 rfl) ?_
            refine lv_aload_n hx hb dX4_reads_44 rfl (lv_at hl 0 rfl) ?_
            refine kget C X 0 (ci := 4) rfl rfl hinX4 5 (by decide) hf61 (v := .int (T_number u)) rfl dX4_reads_45 ?_
            obtain ⟨u35, eu⟩ : ∃ z, z = T_s_x u (T_number u) := ⟨_, rfl⟩
            have hm := lt_t eu hm
            refine kput C X 0 (ci := 4) rfl rfl hinX4 tyX4_ok nmX4 6 (by decide) hf67 rfl (ty := .int) (v := .int (T_number u)) rfl rfl rfl (Nat.le_of_ble_eq_true rfl) (w2 := wT g a (b 0) u35 ++ wS g b w) (by subst eu; rfl) dX4_reads_48 (fun H locs X => ?_)
            clear eu
            refine lv_aload_n hx hb dX4_reads_51 rfl (lv_at hl 0 rfl) ?_
            refine lv_iconst (v := 1) hx hb dX4_reads_52 (by decide) ?_
            obtain ⟨u36, hcl, hm⟩ := bnd hm
            refine kVW C X (kX4_beginPart l g a b 1 u35 w u36 hcl) (cw_X4_reads_X4_beginPart_33 C) 0 (ci := 4) rfl rfl (As := [.int 1]) rfl hl (rest := []) rfl (Nat.le_of_ble_eq_true rfl) (st2 := []) rfl dX4_reads_53 ⟨Nat.le_of_ble_eq_true rfl, Nat.le_of_ble_eq_true rfl⟩ (fun H locs X => ?_)
            clear hcl
            refine lv_iconst (v := 1) hx hb dX4_reads_56 (by decide) ?_
            cases sm hm
            exact kzret rfl C X dX4_reads_57
      · have hm := ifp hc hm
        refine lv_iconst (v := 0) hx hb dX4_reads_28 (by decide) ?_
        cases sm hm
        exact kzret rfl C X dX4_reads_29
    · have hm := ifn hc hm
      refine lv_aload_n hx hb dX4_reads_12 rfl (lv_at hl 0 rfl) ?_
      refine lv_iload_n hx hb dX4_reads_13 rfl (lv_at hl 1 rfl) ?_
      refine lv_bipush (v := 48) hx hb dX4_reads_14 (by decide) ?_
      refine lv_isub hx hb dX4_reads_16 ?_
      obtain ⟨⟨r37, u38⟩, hcl, hm⟩ := bnd hm
      refine kVW C X (kX4_readsDigit l g a b (p1 - 48) u w r37 u38 hcl) (cw_X4_reads_X4_readsDigit_64 C) 0 (ci := 4) rfl rfl (As := [.int (p1 - 48)]) rfl hl (rest := []) rfl (Nat.le_of_ble_eq_true rfl) (st2 := [.int r37]) rfl dX4_reads_17 ⟨Nat.le_of_ble_eq_true rfl, Nat.le_of_ble_eq_true rfl⟩ (fun H locs X => ?_)
      clear hcl
      obtain ⟨hgb, hm⟩ := gd_t hm
      cases sm hm
      exact kzret (isb_n hgb) C X dX4_reads_20
-- X4 BrushStrokes$StrokeText.readToError()I
abbrev rX4_readToError : Room := { frames := 4, cells := 0, slots := 0, locals := 89 }
theorem fl_X4_readToError_18 : (Cond.fieldLink RX4 18 "BrushStrokes$StrokeText" "told" "LBrushStrokes$Stroke;") ∈ wsX4_readToError := by decide +kernel
theorem fl_X4_readToError_22 : (Cond.fieldLink RX4 22 "BrushStrokes$StrokeText" "length" "I") ∈ wsX4_readToError := by decide +kernel
theorem fl_X4_readToError_9 : (Cond.fieldLink RX4 9 "BrushStrokes$StrokeText" "codes" "[I") ∈ wsX4_readToError := by decide +kernel
theorem in_X4_readToError_X4 : ∀ w ∈ u_ws RX4 TX4 8, w ∈ wsX4_readToError := by decide +kernel
theorem cw_X4_readToError_X5_cell_37 {p : Program} {s : State} {m : MethodId} {args : Array Value} {meth : Method} {c : Code} {g : kG} {A : Nat → Prop} (C : CT g p s m args meth c RX4 cX4_readToError 2 (some .int) wsX4_readToError A) : va_CN rX4_readToError s args RX4 37 yX5_cell RX5 cX5_cell 2 (some .int) wsX5_cell rX5_cell 0 0 2 ∧ (Cond.static yX5_cell).before args s = true ∧ True := ⟨va_cnB 2 C.2.2.2.2.2.1 gX4_readToError_X5_cell_n37 rfl rfl rfl (C.2.2.2.2.2.2.2.1.2.1.1 (RX4, 37, yX5_cell, RX5) (by decide +kernel)) (C.2.2.2.2.2.1 (.initialized RX5) (by decide +kernel)) (by decide +kernel) ⟨Nat.le_of_ble_eq_true rfl, Nat.le_of_ble_eq_true rfl⟩, C.2.2.2.2.2.1 (.static yX5_cell) (by decide +kernel), trivial⟩
theorem cw_X4_readToError_X4_reads_41 {p : Program} {s : State} {m : MethodId} {args : Array Value} {meth : Method} {c : Code} {g : kG} {A : Nat → Prop} (C : CT g p s m args meth c RX4 cX4_readToError 2 (some .int) wsX4_readToError A) : CallW rX4_readToError s args RX4 RX4 41 yX4_reads cX4_reads 2 (some .boolean) wsX4_reads rX4_reads 0 0 1 := cwV 1 C.2.2.2.2.2.1 gX4_readToError_X4_reads rfl rfl rfl (by decide +kernel) ⟨Nat.le_of_ble_eq_true rfl, Nat.le_of_ble_eq_true rfl⟩
theorem cw_X4_readToError_X3_removeAll_30 {p : Program} {s : State} {m : MethodId} {args : Array Value} {meth : Method} {c : Code} {g : kG} {A : Nat → Prop} (C : CT g p s m args meth c RX4 cX4_readToError 2 (some .int) wsX4_readToError A) : CallW rX4_readToError s args RX4 RX3 30 yX3_removeAll cX3_removeAll 1 none wsX3_removeAll rX3_removeAll 0 0 0 := cwV 0 C.2.2.2.2.2.1 gX4_readToError_X3_removeAll rfl rfl rfl (by decide +kernel) ⟨Nat.le_of_ble_eq_true rfl, Nat.le_of_ble_eq_true rfl⟩
theorem cw_X4_readToError_X4_beginPart_33 {p : Program} {s : State} {m : MethodId} {args : Array Value} {meth : Method} {c : Code} {g : kG} {A : Nat → Prop} (C : CT g p s m args meth c RX4 cX4_readToError 2 (some .int) wsX4_readToError A) : CallW rX4_readToError s args RX4 RX4 33 yX4_beginPart cX4_beginPart 2 none wsX4_beginPart rX4_beginPart 0 0 1 := cwV 1 C.2.2.2.2.2.1 gX4_readToError_X4_beginPart rfl rfl rfl (by decide +kernel) ⟨Nat.le_of_ble_eq_true rfl, Nat.le_of_ble_eq_true rfl⟩
noncomputable def bX4_readToError_14 : Int32 × TS × SS → Option ((Int32 × TS × SS) ⊕ (Int32 × TS × SS))
  | (x3, u4, u5) => if (T_length u4) ≤ x3 then (some (.inr (T_length u4, u4, u5))) else ((fX5_cell x3 70 (T_codes u4)).bind fun r6 => (fX4_reads r6 u4 u5).bind fun (r7, u8, u9) => if r7 = 0 then (some (.inr (x3, u8, u9))) else (some (.inl (x3 + 1, u8, u9))))
noncomputable def lX4_readToError_14 (x3 : Int32) (u4 : TS) (u5 : SS) : Option (Int32 × TS × SS) := lp bX4_readToError_14 (x3, u4, u5)
theorem lX4_readToError_14_eq (x3 : Int32) (u4 : TS) (u5 : SS) : lX4_readToError_14 x3 u4 u5 = (if (T_length u4) ≤ x3 then (some (.inr (T_length u4, u4, u5))) else ((fX5_cell x3 70 (T_codes u4)).bind fun r6 => (fX4_reads r6 u4 u5).bind fun (r7, u8, u9) => if r7 = 0 then (some (.inr (x3, u8, u9))) else (some (.inl (x3 + 1, u8, u9))))).bind fun r => Sum.elim (fun z => lX4_readToError_14 z.1 z.2.1 z.2.2) (fun r => some r) r := lp_eq bX4_readToError_14 (x3, u4, u5)
set_option maxRecDepth 100000 in
set_option maxHeartbeats 4000000 in
theorem tX4_readToError_14 {p : Program} {l : Launch} {e : Env} {s : State} {m : MethodId} {args : Array Value} {below : List Frame} {meth : Method} {c : Code} {g : kG} {A : Nat → Prop} (a : Nat → Nat) (b : Nat → Nat) (C : CT g p s m args meth c RX4 cX4_readToError 2 (some .int) wsX4_readToError A) (o1 : Int32) (o2 : TS) (o3 : SS) : ∀ (n : Nat) (x3 : Int32) (u4 : TS) (u5 : SS), whl bX4_readToError_14 n (x3, u4, u5) = some (o1, o2, o3) → ∀ (H : Heap) (locs : List Loc) (ls : Array Slot), ST g A s H locs (wT g a (b 0) u4 ++ wS g b u5) → lv_has ls 2 [(0, .ref (a 0)), (1, .int x3)] → W p l e rX4_readToError s m args below meth c H locs 0 0 (kEnd g below args s (some (.int o1)) (wT g a (b 0) o2 ++ wS g b o3) A 0 0) (F0 m 14 ls []) := by
  have hx := C.1
  have hb := C.2.1
  have hinX4 := in_X4_readToError_X4
  have hf9 := C.2.2.2.2.2.1 _ fl_X4_readToError_9
  have hf22 := C.2.2.2.2.2.1 _ fl_X4_readToError_22
  intro n
  induction n with
  | zero =>
    intro x3 u4 u5 hm
    cases hm
  | succ n ih =>
    intro x3 u4 u5 hm H locs ls X hl
    rw [whl] at hm
    obtain ⟨q, hq, hm2⟩ := bnd hm
    clear hm
    have hm := hq
    clear hq
    rw [bX4_readToError_14] at hm
    refine lv_iload_n hx hb dX4_readToError_14 rfl (lv_at hl 1 rfl) ?_
    refine lv_aload_n hx hb dX4_readToError_15 rfl (lv_at hl 0 rfl) ?_
    refine kget C X 0 (ci := 4) rfl rfl hinX4 1 (by decide) hf22 (v := .int (T_length u4)) rfl dX4_readToError_16 ?_
    refine lv_icmp_ge (tgt := 45) hx hb dX4_readToError_19 (by decide) (fun hc => ?_) (fun hc => ?_)
    · have hm := ifp hc hm
      refine lv_aload_n hx hb dX4_readToError_45 rfl (lv_at hl 0 rfl) ?_
      refine kget C X 0 (ci := 4) rfl rfl hinX4 1 (by decide) hf22 (v := .int (T_length u4)) rfl dX4_readToError_46 ?_
      cases sm hm
      cases sm hm2
      exact kiret C X dX4_readToError_49
    · have hm := ifn hc hm
      refine lv_aload_n hx hb dX4_readToError_22 rfl (lv_at hl 0 rfl) ?_
      refine lv_aload_n hx hb dX4_readToError_23 rfl (lv_at hl 0 rfl) ?_
      refine kget C X 0 (ci := 4) rfl rfl hinX4 0 (by decide) hf9 (v := .ref (a 1)) rfl dX4_readToError_24 ?_
      refine lv_iload_n hx hb dX4_readToError_27 rfl (lv_at hl 1 rfl) ?_
      obtain ⟨r6, hcl, hm⟩ := bnd hm
      refine kNF [1] [0, 2, 3] C X (kX5_cell l g (fun _ => a 1) x3 70 (T_codes u4) r6 hcl) (cw_X4_readToError_X5_cell_37 C) rfl (by decide) rfl (by decide) (by decide) (As := [.ref (a 1), .int x3]) rfl hl (rest := [.ref (a 0)]) rfl (Nat.le_of_ble_eq_true rfl) (st2 := [.int r6, .ref (a 0)]) rfl dX4_readToError_28 ⟨Nat.le_of_ble_eq_true rfl, Nat.le_of_ble_eq_true rfl⟩ [0, 3, 1, 2] (by decide) (w3 := wT g a (b 0) u4 ++ wS g b u5) rfl (fun H locs X => ?_)
      clear hcl
      obtain ⟨⟨r7, u8, u9⟩, hcl, hm⟩ := bnd hm
      refine kVW C X (kX4_reads l g a b r6 u4 u5 r7 u8 u9 hcl) (cw_X4_readToError_X4_reads_41 C) 0 (ci := 4) rfl rfl (As := [.int r6]) rfl hl (rest := []) rfl (Nat.le_of_ble_eq_true rfl) (st2 := [.int r7]) rfl dX4_readToError_31 ⟨Nat.le_of_ble_eq_true rfl, Nat.le_of_ble_eq_true rfl⟩ (fun H locs X => ?_)
      clear hcl
      refine lv_if_ne (tgt := 39) hx hb dX4_readToError_34 (by decide) (fun hc => ?_) (fun hc => ?_)
      · have hm := ifn hc hm
        refine lv_iinc (v := x3 + 1) (lv' := [(1, .int (x3 + 1)), (0, .ref (a 0))]) hx hb dX4_readToError_39 hl (k := 1) rfl rfl (by decide) rfl (fun ls hl => ?_)
        refine lv_goto (tgt := 14) hx hb dX4_readToError_42 (by decide) ?_
        cases sm hm
        exact ih _ _ _ hm2 _ _ _ X (lv_sub hl [1, 0] rfl)
      · have hm := ifp hc hm
        refine lv_iload_n hx hb dX4_readToError_37 rfl (lv_at hl 1 rfl) ?_
        cases sm hm
        cases sm hm2
        exact kiret C X dX4_readToError_38
noncomputable def fX4_readToError (u : TS) (w : SS) : Option (Int32 × TS × SS) := (fX3_removeAll w).bind fun u1 => (fX4_beginPart 0 u u1).bind fun u2 => lX4_readToError_14 0 u2 u1
set_option maxRecDepth 100000 in
set_option maxHeartbeats 4000000 in
theorem kX4_readToError (l : Launch) (g : kG) (a : Nat → Nat) (b : Nat → Nat) (u : TS) (w : SS) (o1 : Int32) (o2 : TS) (o3 : SS) (hm : fX4_readToError u w = some (o1, o2, o3)) : KM l yX4_readToError wsX4_readToError rX4_readToError g [.ref (a 0)] (wT g a (b 0) u ++ wS g b w) (some (.int o1)) (wT g a (b 0) o2 ++ wS g b o3) 0 0 := by
  refine KM.of (nL := 2) (by decide) rfl (Nat.le_of_ble_eq_true rfl) ?_
  intro p e s m args below meth c A ls C X hl
  have C : CT g p s m args meth c RX4 cX4_readToError 2 (some .int) wsX4_readToError A := C
  have hx := C.1
  have hb := C.2.1
  have hl : lv_has ls 2 [(0, .ref (a 0))] := hl
  have hinX4 := in_X4_readToError_X4
  have hf18 := C.2.2.2.2.2.1 _ fl_X4_readToError_18
  rw [fX4_readToError] at hm
  refine lv_aload_n hx hb dX4_readToError_0 rfl (lv_at hl 0 rfl) ?_
  refine kget C X 0 (ci := 4) rfl rfl hinX4 2 (by decide) hf18 (v := .ref (b 0)) rfl dX4_readToError_1 ?_
  obtain ⟨u1, hcl, hm⟩ := bnd hm
  refine kVF [2, 3] [0, 1] C X (kX3_removeAll l g b w u1 hcl) (cw_X4_readToError_X3_removeAll_30 C) 2 (ci := 3) rfl rfl rfl (by decide) rfl (by decide) (by decide) (As := []) rfl hl (rest := []) rfl (Nat.le_of_ble_eq_true rfl) (st2 := []) rfl dX4_readToError_4 ⟨Nat.le_of_ble_eq_true rfl, Nat.le_of_ble_eq_true rfl⟩ [0, 1, 2, 3] (by decide) (w3 := wT g a (b 0) u ++ wS g b u1) rfl (fun H locs X => ?_)
  clear hcl
  refine lv_aload_n hx hb dX4_readToError_7 rfl (lv_at hl 0 rfl) ?_
  refine lv_iconst (v := 0) hx hb dX4_readToError_8 (by decide) ?_
  obtain ⟨u2, hcl, hm⟩ := bnd hm
  refine kVW C X (kX4_beginPart l g a b 0 u u1 u2 hcl) (cw_X4_readToError_X4_beginPart_33 C) 0 (ci := 4) rfl rfl (As := [.int 0]) rfl hl (rest := []) rfl (Nat.le_of_ble_eq_true rfl) (st2 := []) rfl dX4_readToError_9 ⟨Nat.le_of_ble_eq_true rfl, Nat.le_of_ble_eq_true rfl⟩ (fun H locs X => ?_)
  clear hcl
  refine lv_iconst (v := 0) hx hb dX4_readToError_12 (by decide) ?_
  refine lv_istore_n (lv' := [(1, .int 0), (0, .ref (a 0))]) hx hb dX4_readToError_13 rfl hl (by decide) rfl (fun ls hl => ?_)
  obtain ⟨nn, hn⟩ := lp_run hm
  exact tX4_readToError_14 a b C  _ _ _ nn _ _ _ hn _ _ _ X (lv_sub hl [1, 0] rfl)
-- X4 BrushStrokes$StrokeText.tellsStroke()Z
abbrev rX4_tellsStroke : Room := { frames := 5, cells := 0, slots := 0, locals := 110 }
theorem fl_X4_tellsStroke_18 : (Cond.fieldLink RX4 18 "BrushStrokes$StrokeText" "told" "LBrushStrokes$Stroke;") ∈ wsX4_tellsStroke := by decide +kernel
theorem fl_X4_tellsStroke_22 : (Cond.fieldLink RX4 22 "BrushStrokes$StrokeText" "length" "I") ∈ wsX4_tellsStroke := by decide +kernel
theorem fl_X4_tellsStroke_49 : (Cond.fieldLink RX4 49 "BrushStrokes$StrokeText" "digits" "I") ∈ wsX4_tellsStroke := by decide +kernel
theorem fl_X4_tellsStroke_52 : (Cond.fieldLink RX4 52 "BrushStrokes$StrokeText" "part" "I") ∈ wsX4_tellsStroke := by decide +kernel
theorem in_X4_tellsStroke_X4 : ∀ w ∈ u_ws RX4 TX4 8, w ∈ wsX4_tellsStroke := by decide +kernel
theorem cw_X4_tellsStroke_X4_readToError_45 {p : Program} {s : State} {m : MethodId} {args : Array Value} {meth : Method} {c : Code} {g : kG} {A : Nat → Prop} (C : CT g p s m args meth c RX4 cX4_tellsStroke 1 (some .boolean) wsX4_tellsStroke A) : CallW rX4_tellsStroke s args RX4 RX4 45 yX4_readToError cX4_readToError 2 (some .int) wsX4_readToError rX4_readToError 0 0 0 := cwV 0 C.2.2.2.2.2.1 gX4_tellsStroke_X4_readToError rfl rfl rfl (by decide +kernel) ⟨Nat.le_of_ble_eq_true rfl, Nat.le_of_ble_eq_true rfl⟩
theorem cw_X4_tellsStroke_X4_endPoint_55 {p : Program} {s : State} {m : MethodId} {args : Array Value} {meth : Method} {c : Code} {g : kG} {A : Nat → Prop} (C : CT g p s m args meth c RX4 cX4_tellsStroke 1 (some .boolean) wsX4_tellsStroke A) : CallW rX4_tellsStroke s args RX4 RX4 55 yX4_endPoint cX4_endPoint 1 none wsX4_endPoint rX4_endPoint 0 0 0 := cwV 0 C.2.2.2.2.2.1 gX4_tellsStroke_X4_endPoint rfl rfl rfl (by decide +kernel) ⟨Nat.le_of_ble_eq_true rfl, Nat.le_of_ble_eq_true rfl⟩
theorem cw_X4_tellsStroke_X3_size_58 {p : Program} {s : State} {m : MethodId} {args : Array Value} {meth : Method} {c : Code} {g : kG} {A : Nat → Prop} (C : CT g p s m args meth c RX4 cX4_tellsStroke 1 (some .boolean) wsX4_tellsStroke A) : CallW rX4_tellsStroke s args RX4 RX3 58 yX3_size cX3_size 1 (some .int) wsX3_size rX3_size 0 0 0 := cwV 0 C.2.2.2.2.2.1 gX4_tellsStroke_X3_size rfl rfl rfl (by decide +kernel) ⟨Nat.le_of_ble_eq_true rfl, Nat.le_of_ble_eq_true rfl⟩
noncomputable def fX4_tellsStroke (u : TS) (w : SS) : Option (Int32 × TS × SS) := (fX4_readToError u w).bind fun (r1, u2, u3) => if r1 < (T_length u2) then (some (0, u2, u3)) else (if (T_digits u2) = 0 then (some (0, u2, u3)) else (if (T_part u2) = 0 then (some (0, u2, u3)) else ((fX4_endPoint u2 u3).bind fun u4 => (fX3_size u4).bind fun r5 => ((if r5 < 2 then (some 0) else (some 1)) : Option (Int32)).bind fun v6 => gd (isb v6) (some (v6, u2, u4)))))
set_option maxRecDepth 100000 in
set_option maxHeartbeats 4000000 in
theorem kX4_tellsStroke (l : Launch) (g : kG) (a : Nat → Nat) (b : Nat → Nat) (u : TS) (w : SS) (o1 : Int32) (o2 : TS) (o3 : SS) (hm : fX4_tellsStroke u w = some (o1, o2, o3)) : KM l yX4_tellsStroke wsX4_tellsStroke rX4_tellsStroke g [.ref (a 0)] (wT g a (b 0) u ++ wS g b w) (some (.int o1)) (wT g a (b 0) o2 ++ wS g b o3) 0 0 := by
  refine KM.of (nL := 1) (by decide) rfl (Nat.le_of_ble_eq_true rfl) ?_
  intro p e s m args below meth c A ls C X hl
  have C : CT g p s m args meth c RX4 cX4_tellsStroke 1 (some .boolean) wsX4_tellsStroke A := C
  have hx := C.1
  have hb := C.2.1
  have hl : lv_has ls 1 [(0, .ref (a 0))] := hl
  have hinX4 := in_X4_tellsStroke_X4
  have hf18 := C.2.2.2.2.2.1 _ fl_X4_tellsStroke_18
  have hf22 := C.2.2.2.2.2.1 _ fl_X4_tellsStroke_22
  have hf49 := C.2.2.2.2.2.1 _ fl_X4_tellsStroke_49
  have hf52 := C.2.2.2.2.2.1 _ fl_X4_tellsStroke_52
  rw [fX4_tellsStroke] at hm
  refine lv_aload_n hx hb dX4_tellsStroke_0 rfl (lv_at hl 0 rfl) ?_
  obtain ⟨⟨r1, u2, u3⟩, hcl, hm⟩ := bnd hm
  refine kVW C X (kX4_readToError l g a b u w r1 u2 u3 hcl) (cw_X4_tellsStroke_X4_readToError_45 C) 0 (ci := 4) rfl rfl (As := []) rfl hl (rest := []) rfl (Nat.le_of_ble_eq_true rfl) (st2 := [.int r1]) rfl dX4_tellsStroke_1 ⟨Nat.le_of_ble_eq_true rfl, Nat.le_of_ble_eq_true rfl⟩ (fun H locs X => ?_)
  clear hcl
  refine lv_aload_n hx hb dX4_tellsStroke_4 rfl (lv_at hl 0 rfl) ?_
  refine kget C X 0 (ci := 4) rfl rfl hinX4 1 (by decide) hf22 (v := .int (T_length u2)) rfl dX4_tellsStroke_5 ?_
  refine lv_icmp_lt (tgt := 25) hx hb dX4_tellsStroke_8 (by decide) (fun hc => ?_) (fun hc => ?_)
  · have hm := ifp hc hm
    refine lv_iconst (v := 0) hx hb dX4_tellsStroke_25 (by decide) ?_
    cases sm hm
    exact kzret rfl C X dX4_tellsStroke_26
  · have hm := ifn hc hm
    refine lv_aload_n hx hb dX4_tellsStroke_11 rfl (lv_at hl 0 rfl) ?_
    refine kget C X 0 (ci := 4) rfl rfl hinX4 4 (by decide) hf49 (v := .int (T_digits u2)) rfl dX4_tellsStroke_12 ?_
    refine lv_if_eq (tgt := 25) hx hb dX4_tellsStroke_15 (by decide) (fun hc => ?_) (fun hc => ?_)
    · have hm := ifp hc hm
      refine lv_iconst (v := 0) hx hb dX4_tellsStroke_25 (by decide) ?_
      cases sm hm
      exact kzret rfl C X dX4_tellsStroke_26
    · have hm := ifn hc hm
      refine lv_aload_n hx hb dX4_tellsStroke_18 rfl (lv_at hl 0 rfl) ?_
      refine kget C X 0 (ci := 4) rfl rfl hinX4 3 (by decide) hf52 (v := .int (T_part u2)) rfl dX4_tellsStroke_19 ?_
      refine lv_if_ne (tgt := 27) hx hb dX4_tellsStroke_22 (by decide) (fun hc => ?_) (fun hc => ?_)
      · have hm := ifn hc hm
        refine lv_aload_n hx hb dX4_tellsStroke_27 rfl (lv_at hl 0 rfl) ?_
        obtain ⟨u4, hcl, hm⟩ := bnd hm
        refine kVW C X (kX4_endPoint l g a b u2 u3 u4 hcl) (cw_X4_tellsStroke_X4_endPoint_55 C) 0 (ci := 4) rfl rfl (As := []) rfl hl (rest := []) rfl (Nat.le_of_ble_eq_true rfl) (st2 := []) rfl dX4_tellsStroke_28 ⟨Nat.le_of_ble_eq_true rfl, Nat.le_of_ble_eq_true rfl⟩ (fun H locs X => ?_)
        clear hcl
        refine lv_aload_n hx hb dX4_tellsStroke_31 rfl (lv_at hl 0 rfl) ?_
        refine kget C X 0 (ci := 4) rfl rfl hinX4 2 (by decide) hf18 (v := .ref (b 0)) rfl dX4_tellsStroke_32 ?_
        obtain ⟨r5, hcl, hm⟩ := bnd hm
        refine kVF [2, 3] [0, 1] C X (kX3_size l g b u4 r5 hcl) (cw_X4_tellsStroke_X3_size_58 C) 2 (ci := 3) rfl rfl rfl (by decide) rfl (by decide) (by decide) (As := []) rfl hl (rest := []) rfl (Nat.le_of_ble_eq_true rfl) (st2 := [.int r5]) rfl dX4_tellsStroke_35 ⟨Nat.le_of_ble_eq_true rfl, Nat.le_of_ble_eq_true rfl⟩ [0, 1, 2, 3] (by decide) (w3 := wT g a (b 0) u2 ++ wS g b u4) rfl (fun H locs X => ?_)
        clear hcl
        refine lv_iconst (v := 2) hx hb dX4_tellsStroke_38 (by decide) ?_
        obtain ⟨v6, hE, hm⟩ := bnd hm
        have K : ∀ (H : Heap) (locs : List Loc) (ls : Array Slot), ST g A s H locs (wT g a (b 0) u2 ++ wS g b u4) → lv_has ls 1 [] → W p l e rX4_tellsStroke s m args below meth c H locs 0 0 (kEnd g below args s (some (.int o1)) (wT g a (b 0) o2 ++ wS g b o3) A 0 0) (F0 m 47 ls [.int v6]) := by
          intro H locs ls X hl
          clear hE
          obtain ⟨hgb, hm⟩ := gd_t hm
          cases sm hm
          exact kzret (isb_n hgb) C X dX4_tellsStroke_47
        clear hm
        have hm := hE
        clear hE
        refine lv_icmp_lt (tgt := 46) hx hb dX4_tellsStroke_39 (by decide) (fun hc => ?_) (fun hc => ?_)
        · have hm := ifp hc hm
          refine lv_iconst (v := 0) hx hb dX4_tellsStroke_46 (by decide) ?_
          cases sm hm
          exact K _ _ _ X (lv_sub hl [] rfl)
        · have hm := ifn hc hm
          refine lv_iconst (v := 1) hx hb dX4_tellsStroke_42 (by decide) ?_
          refine lv_goto (tgt := 47) hx hb dX4_tellsStroke_43 (by decide) ?_
          cases sm hm
          exact K _ _ _ X (lv_sub hl [] rfl)
      · have hm := ifp hc hm
        refine lv_iconst (v := 0) hx hb dX4_tellsStroke_25 (by decide) ?_
        cases sm hm
        exact kzret rfl C X dX4_tellsStroke_26
