-- X3 BrushStrokes$Stroke.size()I
abbrev rX3_size : Room := { frames := 0, cells := 0, slots := 0, locals := 0 }
theorem fl_X3_size_15 : (Cond.fieldLink RX3 15 "BrushStrokes$Stroke" "size" "I") ∈ wsX3_size := by decide +kernel
theorem in_X3_size_X3 : ∀ w ∈ u_ws RX3 TX3 3, w ∈ wsX3_size := by decide +kernel
noncomputable def fX3_size (u : SS) : Option (Int32) := some (S_size u)
set_option maxRecDepth 100000 in
set_option maxHeartbeats 4000000 in
theorem kX3_size (l : Launch) (g : kG) (a : Nat → Nat) (u : SS) (o1 : Int32) (hm : fX3_size u = some o1) : KM l yX3_size wsX3_size rX3_size g [.ref (a 0)] (wS g a u) (some (.int o1)) (wS g a u) 0 0 := by
  refine KM.of (nL := 1) (by decide) rfl (Nat.le_of_ble_eq_true rfl) ?_
  intro p e s m args below meth c A ls C X hl
  have C : CT g p s m args meth c RX3 cX3_size 1 (some .int) wsX3_size A := C
  have hx := C.1
  have hb := C.2.1
  have hl : lv_has ls 1 [(0, .ref (a 0))] := hl
  have hinX3 := in_X3_size_X3
  have hf15 := C.2.2.2.2.2.1 _ fl_X3_size_15
  rw [fX3_size] at hm
  refine lv_aload_n hx hb dX3_size_0 rfl (lv_at hl 0 rfl) ?_
  refine kget C X 0 (ci := 3) rfl rfl hinX3 1 (by decide) hf15 (v := .int (S_size u)) rfl dX3_size_1 ?_
  cases sm hm
  exact kiret C X dX3_size_4
-- X3 BrushStrokes$Stroke.x(I)I
abbrev rX3_x : Room := { frames := 0, cells := 0, slots := 0, locals := 0 }
theorem fl_X3_x_11 : (Cond.fieldLink RX3 11 "BrushStrokes$Stroke" "numbers" "[I") ∈ wsX3_x := by decide +kernel
theorem in_X3_x_X3 : ∀ w ∈ u_ws RX3 TX3 3, w ∈ wsX3_x := by decide +kernel
noncomputable def fX3_x (p1 : Int32) (u : SS) : Option (Int32) := ((if (3 * p1) < 0 then (some 0) else (if 72 ≤ (3 * p1) then (some 0) else (gd (inb (3 * p1) 72) (some (S_numbers u (3 * p1).toNatClampNeg))))) : Option (Int32)).bind fun v1 => some v1
set_option maxRecDepth 100000 in
set_option maxHeartbeats 4000000 in
theorem kX3_x (l : Launch) (g : kG) (a : Nat → Nat) (p1 : Int32) (u : SS) (o1 : Int32) (hm : fX3_x p1 u = some o1) : KM l yX3_x wsX3_x rX3_x g [.ref (a 0), .int p1] (wS g a u) (some (.int o1)) (wS g a u) 0 0 := by
  refine KM.of (nL := 3) (by decide) rfl (Nat.le_of_ble_eq_true rfl) ?_
  intro p e s m args below meth c A ls C X hl
  have C : CT g p s m args meth c RX3 cX3_x 3 (some .int) wsX3_x A := C
  have hx := C.1
  have hb := C.2.1
  have hl : lv_has ls 3 [(0, .ref (a 0)), (1, .int p1)] := hl
  have hinX3 := in_X3_x_X3
  have hf11 := C.2.2.2.2.2.1 _ fl_X3_x_11
  rw [fX3_x] at hm
  refine lv_iconst (v := 3) hx hb dX3_x_0 (by decide) ?_
  refine lv_iload_n hx hb dX3_x_1 rfl (lv_at hl 1 rfl) ?_
  refine lv_imul hx hb dX3_x_2 ?_
  refine lv_istore_n (lv' := [(2, .int (3 * p1)), (0, .ref (a 0)), (1, .int p1)]) hx hb dX3_x_3 rfl hl (by decide) rfl (fun ls hl => ?_)
  refine lv_iload_n hx hb dX3_x_4 rfl (lv_at hl 0 rfl) ?_
  obtain ⟨v1, hE, hm⟩ := bnd hm
  have K : ∀ (H : Heap) (locs : List Loc) (ls : Array Slot), ST g A s H locs (wS g a u) → lv_has ls 3 [] → W p l e rX3_x s m args below meth c H locs 0 0 (kEnd g below args s (some (.int o1)) (wS g a u) A 0 0) (F0 m 27 ls [.int v1]) := by
    intro H locs ls X hl
    clear hE
    cases sm hm
    exact kiret C X dX3_x_27
  clear hm
  have hm := hE
  clear hE
  refine lv_if_lt (tgt := 26) hx hb dX3_x_5 (by decide) (fun hc => ?_) (fun hc => ?_)
  · have hm := ifp hc hm
    refine lv_iconst (v := 0) hx hb dX3_x_26 (by decide) ?_
    cases sm hm
    exact K _ _ _ X (lv_sub hl [] rfl)
  · have hm := ifn hc hm
    refine lv_iload_n hx hb dX3_x_8 rfl (lv_at hl 0 rfl) ?_
    refine lv_aload_n hx hb dX3_x_9 rfl (lv_at hl 1 rfl) ?_
    refine kget C X 0 (ci := 3) rfl rfl hinX3 0 (by decide) hf11 (v := .ref (a 1)) rfl dX3_x_10 ?_
    refine kalen C X 1 rfl (v := 72) rfl dX3_x_13 ?_
    refine lv_icmp_ge (tgt := 26) hx hb dX3_x_14 (by decide) (fun hc => ?_) (fun hc => ?_)
    · have hm := ifp hc hm
      refine lv_iconst (v := 0) hx hb dX3_x_26 (by decide) ?_
      cases sm hm
      exact K _ _ _ X (lv_sub hl [] rfl)
    · have hm := ifn hc hm
      refine lv_aload_n hx hb dX3_x_17 rfl (lv_at hl 1 rfl) ?_
      refine kget C X 0 (ci := 3) rfl rfl hinX3 0 (by decide) hf11 (v := .ref (a 1)) rfl dX3_x_18 ?_
      refine lv_iload_n hx hb dX3_x_21 rfl (lv_at hl 0 rfl) ?_
      obtain ⟨hgi, hm⟩ := gd_t hm
      refine kiald C X 1 rfl hgi dX3_x_22 ?_
      refine lv_goto (tgt := 27) hx hb dX3_x_23 (by decide) ?_
      cases sm hm
      exact K _ _ _ X (lv_sub hl [] rfl)
-- X3 BrushStrokes$Stroke.y(I)I
abbrev rX3_y : Room := { frames := 0, cells := 0, slots := 0, locals := 0 }
theorem fl_X3_y_11 : (Cond.fieldLink RX3 11 "BrushStrokes$Stroke" "numbers" "[I") ∈ wsX3_y := by decide +kernel
theorem in_X3_y_X3 : ∀ w ∈ u_ws RX3 TX3 3, w ∈ wsX3_y := by decide +kernel
noncomputable def fX3_y (p1 : Int32) (u : SS) : Option (Int32) := ((if ((3 * p1) + 1) < 0 then (some 0) else (if 72 ≤ ((3 * p1) + 1) then (some 0) else (gd (inb ((3 * p1) + 1) 72) (some (S_numbers u ((3 * p1) + 1).toNatClampNeg))))) : Option (Int32)).bind fun v1 => some v1
set_option maxRecDepth 100000 in
set_option maxHeartbeats 4000000 in
theorem kX3_y (l : Launch) (g : kG) (a : Nat → Nat) (p1 : Int32) (u : SS) (o1 : Int32) (hm : fX3_y p1 u = some o1) : KM l yX3_y wsX3_y rX3_y g [.ref (a 0), .int p1] (wS g a u) (some (.int o1)) (wS g a u) 0 0 := by
  refine KM.of (nL := 3) (by decide) rfl (Nat.le_of_ble_eq_true rfl) ?_
  intro p e s m args below meth c A ls C X hl
  have C : CT g p s m args meth c RX3 cX3_y 3 (some .int) wsX3_y A := C
  have hx := C.1
  have hb := C.2.1
  have hl : lv_has ls 3 [(0, .ref (a 0)), (1, .int p1)] := hl
  have hinX3 := in_X3_y_X3
  have hf11 := C.2.2.2.2.2.1 _ fl_X3_y_11
  rw [fX3_y] at hm
  refine lv_iconst (v := 3) hx hb dX3_y_0 (by decide) ?_
  refine lv_iload_n hx hb dX3_y_1 rfl (lv_at hl 1 rfl) ?_
  refine lv_imul hx hb dX3_y_2 ?_
  refine lv_iconst (v := 1) hx hb dX3_y_3 (by decide) ?_
  refine lv_iadd hx hb dX3_y_4 ?_
  refine lv_istore_n (lv' := [(2, .int ((3 * p1) + 1)), (0, .ref (a 0)), (1, .int p1)]) hx hb dX3_y_5 rfl hl (by decide) rfl (fun ls hl => ?_)
  refine lv_iload_n hx hb dX3_y_6 rfl (lv_at hl 0 rfl) ?_
  obtain ⟨v1, hE, hm⟩ := bnd hm
  have K : ∀ (H : Heap) (locs : List Loc) (ls : Array Slot), ST g A s H locs (wS g a u) → lv_has ls 3 [] → W p l e rX3_y s m args below meth c H locs 0 0 (kEnd g below args s (some (.int o1)) (wS g a u) A 0 0) (F0 m 29 ls [.int v1]) := by
    intro H locs ls X hl
    clear hE
    cases sm hm
    exact kiret C X dX3_y_29
  clear hm
  have hm := hE
  clear hE
  refine lv_if_lt (tgt := 28) hx hb dX3_y_7 (by decide) (fun hc => ?_) (fun hc => ?_)
  · have hm := ifp hc hm
    refine lv_iconst (v := 0) hx hb dX3_y_28 (by decide) ?_
    cases sm hm
    exact K _ _ _ X (lv_sub hl [] rfl)
  · have hm := ifn hc hm
    refine lv_iload_n hx hb dX3_y_10 rfl (lv_at hl 0 rfl) ?_
    refine lv_aload_n hx hb dX3_y_11 rfl (lv_at hl 1 rfl) ?_
    refine kget C X 0 (ci := 3) rfl rfl hinX3 0 (by decide) hf11 (v := .ref (a 1)) rfl dX3_y_12 ?_
    refine kalen C X 1 rfl (v := 72) rfl dX3_y_15 ?_
    refine lv_icmp_ge (tgt := 28) hx hb dX3_y_16 (by decide) (fun hc => ?_) (fun hc => ?_)
    · have hm := ifp hc hm
      refine lv_iconst (v := 0) hx hb dX3_y_28 (by decide) ?_
      cases sm hm
      exact K _ _ _ X (lv_sub hl [] rfl)
    · have hm := ifn hc hm
      refine lv_aload_n hx hb dX3_y_19 rfl (lv_at hl 1 rfl) ?_
      refine kget C X 0 (ci := 3) rfl rfl hinX3 0 (by decide) hf11 (v := .ref (a 1)) rfl dX3_y_20 ?_
      refine lv_iload_n hx hb dX3_y_23 rfl (lv_at hl 0 rfl) ?_
      obtain ⟨hgi, hm⟩ := gd_t hm
      refine kiald C X 1 rfl hgi dX3_y_24 ?_
      refine lv_goto (tgt := 29) hx hb dX3_y_25 (by decide) ?_
      cases sm hm
      exact K _ _ _ X (lv_sub hl [] rfl)
-- X3 BrushStrokes$Stroke.width(I)I
abbrev rX3_width : Room := { frames := 0, cells := 0, slots := 0, locals := 0 }
theorem fl_X3_width_11 : (Cond.fieldLink RX3 11 "BrushStrokes$Stroke" "numbers" "[I") ∈ wsX3_width := by decide +kernel
theorem in_X3_width_X3 : ∀ w ∈ u_ws RX3 TX3 3, w ∈ wsX3_width := by decide +kernel
noncomputable def fX3_width (p1 : Int32) (u : SS) : Option (Int32) := ((if ((3 * p1) + 2) < 0 then (some 0) else (if 72 ≤ ((3 * p1) + 2) then (some 0) else (gd (inb ((3 * p1) + 2) 72) (some (S_numbers u ((3 * p1) + 2).toNatClampNeg))))) : Option (Int32)).bind fun v1 => some v1
set_option maxRecDepth 100000 in
set_option maxHeartbeats 4000000 in
theorem kX3_width (l : Launch) (g : kG) (a : Nat → Nat) (p1 : Int32) (u : SS) (o1 : Int32) (hm : fX3_width p1 u = some o1) : KM l yX3_width wsX3_width rX3_width g [.ref (a 0), .int p1] (wS g a u) (some (.int o1)) (wS g a u) 0 0 := by
  refine KM.of (nL := 3) (by decide) rfl (Nat.le_of_ble_eq_true rfl) ?_
  intro p e s m args below meth c A ls C X hl
  have C : CT g p s m args meth c RX3 cX3_width 3 (some .int) wsX3_width A := C
  have hx := C.1
  have hb := C.2.1
  have hl : lv_has ls 3 [(0, .ref (a 0)), (1, .int p1)] := hl
  have hinX3 := in_X3_width_X3
  have hf11 := C.2.2.2.2.2.1 _ fl_X3_width_11
  rw [fX3_width] at hm
  refine lv_iconst (v := 3) hx hb dX3_width_0 (by decide) ?_
  refine lv_iload_n hx hb dX3_width_1 rfl (lv_at hl 1 rfl) ?_
  refine lv_imul hx hb dX3_width_2 ?_
  refine lv_iconst (v := 2) hx hb dX3_width_3 (by decide) ?_
  refine lv_iadd hx hb dX3_width_4 ?_
  refine lv_istore_n (lv' := [(2, .int ((3 * p1) + 2)), (0, .ref (a 0)), (1, .int p1)]) hx hb dX3_width_5 rfl hl (by decide) rfl (fun ls hl => ?_)
  refine lv_iload_n hx hb dX3_width_6 rfl (lv_at hl 0 rfl) ?_
  obtain ⟨v1, hE, hm⟩ := bnd hm
  have K : ∀ (H : Heap) (locs : List Loc) (ls : Array Slot), ST g A s H locs (wS g a u) → lv_has ls 3 [] → W p l e rX3_width s m args below meth c H locs 0 0 (kEnd g below args s (some (.int o1)) (wS g a u) A 0 0) (F0 m 29 ls [.int v1]) := by
    intro H locs ls X hl
    clear hE
    cases sm hm
    exact kiret C X dX3_width_29
  clear hm
  have hm := hE
  clear hE
  refine lv_if_lt (tgt := 28) hx hb dX3_width_7 (by decide) (fun hc => ?_) (fun hc => ?_)
  · have hm := ifp hc hm
    refine lv_iconst (v := 0) hx hb dX3_width_28 (by decide) ?_
    cases sm hm
    exact K _ _ _ X (lv_sub hl [] rfl)
  · have hm := ifn hc hm
    refine lv_iload_n hx hb dX3_width_10 rfl (lv_at hl 0 rfl) ?_
    refine lv_aload_n hx hb dX3_width_11 rfl (lv_at hl 1 rfl) ?_
    refine kget C X 0 (ci := 3) rfl rfl hinX3 0 (by decide) hf11 (v := .ref (a 1)) rfl dX3_width_12 ?_
    refine kalen C X 1 rfl (v := 72) rfl dX3_width_15 ?_
    refine lv_icmp_ge (tgt := 28) hx hb dX3_width_16 (by decide) (fun hc => ?_) (fun hc => ?_)
    · have hm := ifp hc hm
      refine lv_iconst (v := 0) hx hb dX3_width_28 (by decide) ?_
      cases sm hm
      exact K _ _ _ X (lv_sub hl [] rfl)
    · have hm := ifn hc hm
      refine lv_aload_n hx hb dX3_width_19 rfl (lv_at hl 1 rfl) ?_
      refine kget C X 0 (ci := 3) rfl rfl hinX3 0 (by decide) hf11 (v := .ref (a 1)) rfl dX3_width_20 ?_
      refine lv_iload_n hx hb dX3_width_23 rfl (lv_at hl 0 rfl) ?_
      obtain ⟨hgi, hm⟩ := gd_t hm
      refine kiald C X 1 rfl hgi dX3_width_24 ?_
      refine lv_goto (tgt := 29) hx hb dX3_width_25 (by decide) ?_
      cases sm hm
      exact K _ _ _ X (lv_sub hl [] rfl)
-- X3 BrushStrokes$Stroke.kept()I
abbrev rX3_kept : Room := { frames := 0, cells := 0, slots := 0, locals := 0 }
theorem fl_X3_kept_19 : (Cond.fieldLink RX3 19 "BrushStrokes$Stroke" "kept" "I") ∈ wsX3_kept := by decide +kernel
theorem in_X3_kept_X3 : ∀ w ∈ u_ws RX3 TX3 3, w ∈ wsX3_kept := by decide +kernel
noncomputable def fX3_kept (u : SS) : Option (Int32) := some (S_kept u)
set_option maxRecDepth 100000 in
set_option maxHeartbeats 4000000 in
theorem kX3_kept (l : Launch) (g : kG) (a : Nat → Nat) (u : SS) (o1 : Int32) (hm : fX3_kept u = some o1) : KM l yX3_kept wsX3_kept rX3_kept g [.ref (a 0)] (wS g a u) (some (.int o1)) (wS g a u) 0 0 := by
  refine KM.of (nL := 1) (by decide) rfl (Nat.le_of_ble_eq_true rfl) ?_
  intro p e s m args below meth c A ls C X hl
  have C : CT g p s m args meth c RX3 cX3_kept 1 (some .int) wsX3_kept A := C
  have hx := C.1
  have hb := C.2.1
  have hl : lv_has ls 1 [(0, .ref (a 0))] := hl
  have hinX3 := in_X3_kept_X3
  have hf19 := C.2.2.2.2.2.1 _ fl_X3_kept_19
  rw [fX3_kept] at hm
  refine lv_aload_n hx hb dX3_kept_0 rfl (lv_at hl 0 rfl) ?_
  refine kget C X 0 (ci := 3) rfl rfl hinX3 2 (by decide) hf19 (v := .int (S_kept u)) rfl dX3_kept_1 ?_
  cases sm hm
  exact kiret C X dX3_kept_4
-- X3 BrushStrokes$Stroke.isKept(I)Z
abbrev rX3_isKept : Room := { frames := 1, cells := 0, slots := 0, locals := 21 }
theorem fl_X3_isKept_19 : (Cond.fieldLink RX3 19 "BrushStrokes$Stroke" "kept" "I") ∈ wsX3_isKept := by decide +kernel
theorem in_X3_isKept_X3 : ∀ w ∈ u_ws RX3 TX3 3, w ∈ wsX3_isKept := by decide +kernel
theorem cw_X3_isKept_X5_hasBit_22 {p : Program} {s : State} {m : MethodId} {args : Array Value} {meth : Method} {c : Code} {g : kG} {A : Nat → Prop} (C : CT g p s m args meth c RX3 cX3_isKept 2 (some .boolean) wsX3_isKept A) : va_CN rX3_isKept s args RX3 22 yX5_hasBit RX5 cX5_hasBit 2 (some .boolean) wsX5_hasBit rX5_hasBit 0 0 2 ∧ (Cond.static yX5_hasBit).before args s = true ∧ True := ⟨va_cnB 2 C.2.2.2.2.2.1 gX3_isKept_X5_hasBit_n22 rfl rfl rfl (C.2.2.2.2.2.2.2.1.2.1.1 (RX3, 22, yX5_hasBit, RX5) (by decide +kernel)) (C.2.2.2.2.2.1 (.initialized RX5) (by decide +kernel)) (by decide +kernel) ⟨Nat.le_of_ble_eq_true rfl, Nat.le_of_ble_eq_true rfl⟩, C.2.2.2.2.2.1 (.static yX5_hasBit) (by decide +kernel), trivial⟩
noncomputable def fX3_isKept (p1 : Int32) (u : SS) : Option (Int32) := (fX5_hasBit (S_kept u) p1).bind fun r1 => gd (isb r1) (some r1)
set_option maxRecDepth 100000 in
set_option maxHeartbeats 4000000 in
theorem kX3_isKept (l : Launch) (g : kG) (a : Nat → Nat) (p1 : Int32) (u : SS) (o1 : Int32) (hm : fX3_isKept p1 u = some o1) : KM l yX3_isKept wsX3_isKept rX3_isKept g [.ref (a 0), .int p1] (wS g a u) (some (.int o1)) (wS g a u) 0 0 := by
  refine KM.of (nL := 2) (by decide) rfl (Nat.le_of_ble_eq_true rfl) ?_
  intro p e s m args below meth c A ls C X hl
  have C : CT g p s m args meth c RX3 cX3_isKept 2 (some .boolean) wsX3_isKept A := C
  have hx := C.1
  have hb := C.2.1
  have hl : lv_has ls 2 [(0, .ref (a 0)), (1, .int p1)] := hl
  have hinX3 := in_X3_isKept_X3
  have hf19 := C.2.2.2.2.2.1 _ fl_X3_isKept_19
  rw [fX3_isKept] at hm
  refine lv_aload_n hx hb dX3_isKept_0 rfl (lv_at hl 0 rfl) ?_
  refine kget C X 0 (ci := 3) rfl rfl hinX3 2 (by decide) hf19 (v := .int (S_kept u)) rfl dX3_isKept_1 ?_
  refine lv_iload_n hx hb dX3_isKept_4 rfl (lv_at hl 1 rfl) ?_
  obtain ⟨r1, hcl, hm⟩ := bnd hm
  refine kN0 C X (kX5_hasBit l g (S_kept u) p1 r1 hcl) (cw_X3_isKept_X5_hasBit_22 C) (As := [.int (S_kept u), .int p1]) rfl hl (rest := []) rfl (Nat.le_of_ble_eq_true rfl) (st2 := [.int r1]) rfl dX3_isKept_5 ⟨Nat.le_of_ble_eq_true rfl, Nat.le_of_ble_eq_true rfl⟩ (fun H locs X => ?_)
  clear hcl
  obtain ⟨hgb, hm⟩ := gd_t hm
  cases sm hm
  exact kzret (isb_n hgb) C X dX3_isKept_8
-- X3 BrushStrokes$Stroke.keptCount()I
abbrev rX3_keptCount : Room := { frames := 1, cells := 0, slots := 0, locals := 20 }
theorem fl_X3_keptCount_19 : (Cond.fieldLink RX3 19 "BrushStrokes$Stroke" "kept" "I") ∈ wsX3_keptCount := by decide +kernel
theorem in_X3_keptCount_X3 : ∀ w ∈ u_ws RX3 TX3 3, w ∈ wsX3_keptCount := by decide +kernel
theorem cw_X3_keptCount_J6_bitCount_0f7a4_26 {p : Program} {s : State} {m : MethodId} {args : Array Value} {meth : Method} {c : Code} {g : kG} {A : Nat → Prop} (C : CT g p s m args meth c RX3 cX3_keptCount 1 (some .int) wsX3_keptCount A) : CallB rX3_keptCount s args RX3 26 yJ6_bitCount_0f7a4 cJ6_bitCount_0f7a4 1 (some .int) wsJ6_bitCount_0f7a4 rJ6_bitCount_0f7a4 0 0 1 ∧ (Cond.static yJ6_bitCount_0f7a4).before args s = true := va_cwS 1 C.2.2.2.2.2.1 gX3_keptCount_J6_bitCount_0f7a4 rfl rfl rfl (by decide +kernel) ⟨Nat.le_of_ble_eq_true rfl, Nat.le_of_ble_eq_true rfl⟩
noncomputable def fX3_keptCount (u : SS) : Option (Int32) := (fJ6_bitCount_0f7a4 (S_kept u)).bind fun r1 => some r1
set_option maxRecDepth 100000 in
set_option maxHeartbeats 4000000 in
theorem kX3_keptCount (l : Launch) (g : kG) (a : Nat → Nat) (u : SS) (o1 : Int32) (hm : fX3_keptCount u = some o1) : KM l yX3_keptCount wsX3_keptCount rX3_keptCount g [.ref (a 0)] (wS g a u) (some (.int o1)) (wS g a u) 0 0 := by
  refine KM.of (nL := 1) (by decide) rfl (Nat.le_of_ble_eq_true rfl) ?_
  intro p e s m args below meth c A ls C X hl
  have C : CT g p s m args meth c RX3 cX3_keptCount 1 (some .int) wsX3_keptCount A := C
  have hx := C.1
  have hb := C.2.1
  have hl : lv_has ls 1 [(0, .ref (a 0))] := hl
  have hinX3 := in_X3_keptCount_X3
  have hf19 := C.2.2.2.2.2.1 _ fl_X3_keptCount_19
  rw [fX3_keptCount] at hm
  refine lv_aload_n hx hb dX3_keptCount_0 rfl (lv_at hl 0 rfl) ?_
  refine kget C X 0 (ci := 3) rfl rfl hinX3 2 (by decide) hf19 (v := .int (S_kept u)) rfl dX3_keptCount_1 ?_
  obtain ⟨r1, hcl, hm⟩ := bnd hm
  refine kS0 C X (kJ6_bitCount_0f7a4 l g (S_kept u) r1 hcl) (cw_X3_keptCount_J6_bitCount_0f7a4_26 C) (As := [.int (S_kept u)]) rfl hl (rest := []) rfl (Nat.le_of_ble_eq_true rfl) (st2 := [.int r1]) rfl dX3_keptCount_4 ⟨Nat.le_of_ble_eq_true rfl, Nat.le_of_ble_eq_true rfl⟩ (fun H locs X => ?_)
  clear hcl
  cases sm hm
  exact kiret C X dX3_keptCount_7
-- X3 BrushStrokes$Stroke.keepAll()V
abbrev rX3_keepAll : Room := { frames := 0, cells := 0, slots := 0, locals := 0 }
theorem fl_X3_keepAll_15 : (Cond.fieldLink RX3 15 "BrushStrokes$Stroke" "size" "I") ∈ wsX3_keepAll := by decide +kernel
theorem fl_X3_keepAll_19 : (Cond.fieldLink RX3 19 "BrushStrokes$Stroke" "kept" "I") ∈ wsX3_keepAll := by decide +kernel
theorem in_X3_keepAll_X3 : ∀ w ∈ u_ws RX3 TX3 3, w ∈ wsX3_keepAll := by decide +kernel
noncomputable def fX3_keepAll (u : SS) : Option (SS) := lt (S_s_kept u ((1 <<< ((S_size u) &&& 31)) - 1)) fun u1 => some u1
set_option maxRecDepth 100000 in
set_option maxHeartbeats 4000000 in
theorem kX3_keepAll (l : Launch) (g : kG) (a : Nat → Nat) (u : SS) (o1 : SS) (hm : fX3_keepAll u = some o1) : KM l yX3_keepAll wsX3_keepAll rX3_keepAll g [.ref (a 0)] (wS g a u) none (wS g a o1) 0 0 := by
  refine KM.of (nL := 1) (by decide) rfl (Nat.le_of_ble_eq_true rfl) ?_
  intro p e s m args below meth c A ls C X hl
  have C : CT g p s m args meth c RX3 cX3_keepAll 1 none wsX3_keepAll A := C
  have hx := C.1
  have hb := C.2.1
  have hl : lv_has ls 1 [(0, .ref (a 0))] := hl
  have hinX3 := in_X3_keepAll_X3
  have hf15 := C.2.2.2.2.2.1 _ fl_X3_keepAll_15
  have hf19 := C.2.2.2.2.2.1 _ fl_X3_keepAll_19
  rw [fX3_keepAll] at hm
  refine lv_aload_n hx hb dX3_keepAll_0 rfl (lv_at hl 0 rfl) ?_
  refine lv_iconst (v := 1) hx hb dX3_keepAll_1 (by decide) ?_
  refine lv_aload_n hx hb dX3_keepAll_2 rfl (lv_at hl 0 rfl) ?_
  refine kget C X 0 (ci := 3) rfl rfl hinX3 1 (by decide) hf15 (v := .int (S_size u)) rfl dX3_keepAll_3 ?_
  refine lv_ishl hx hb dX3_keepAll_6 ?_
  refine lv_iconst (v := 1) hx hb dX3_keepAll_7 (by decide) ?_
  refine lv_isub hx hb dX3_keepAll_8 ?_
  obtain ⟨u1, eu⟩ : ∃ z, z = S_s_kept u ((1 <<< ((S_size u) &&& 31)) - 1) := ⟨_, rfl⟩
  have hm := lt_t eu hm
  refine kput C X 0 (ci := 3) rfl rfl hinX3 tyX3_ok nmX3 2 (by decide) hf19 rfl (ty := .int) (v := .int ((1 <<< ((S_size u) &&& 31)) - 1)) rfl rfl rfl (Nat.le_of_ble_eq_true rfl) (w2 := wS g a u1) (by subst eu; rfl) dX3_keepAll_9 (fun H locs X => ?_)
  clear eu
  cases sm hm
  exact kvret C X dX3_keepAll_12
-- X3 BrushStrokes$Stroke.keepOnly(I)V
abbrev rX3_keepOnly : Room := { frames := 0, cells := 0, slots := 0, locals := 0 }
theorem fl_X3_keepOnly_19 : (Cond.fieldLink RX3 19 "BrushStrokes$Stroke" "kept" "I") ∈ wsX3_keepOnly := by decide +kernel
theorem in_X3_keepOnly_X3 : ∀ w ∈ u_ws RX3 TX3 3, w ∈ wsX3_keepOnly := by decide +kernel
noncomputable def fX3_keepOnly (p1 : Int32) (u : SS) : Option (SS) := lt (S_s_kept u p1) fun u1 => some u1
set_option maxRecDepth 100000 in
set_option maxHeartbeats 4000000 in
theorem kX3_keepOnly (l : Launch) (g : kG) (a : Nat → Nat) (p1 : Int32) (u : SS) (o1 : SS) (hm : fX3_keepOnly p1 u = some o1) : KM l yX3_keepOnly wsX3_keepOnly rX3_keepOnly g [.ref (a 0), .int p1] (wS g a u) none (wS g a o1) 0 0 := by
  refine KM.of (nL := 2) (by decide) rfl (Nat.le_of_ble_eq_true rfl) ?_
  intro p e s m args below meth c A ls C X hl
  have C : CT g p s m args meth c RX3 cX3_keepOnly 2 none wsX3_keepOnly A := C
  have hx := C.1
  have hb := C.2.1
  have hl : lv_has ls 2 [(0, .ref (a 0)), (1, .int p1)] := hl
  have hinX3 := in_X3_keepOnly_X3
  have hf19 := C.2.2.2.2.2.1 _ fl_X3_keepOnly_19
  rw [fX3_keepOnly] at hm
  refine lv_aload_n hx hb dX3_keepOnly_0 rfl (lv_at hl 0 rfl) ?_
  refine lv_iload_n hx hb dX3_keepOnly_1 rfl (lv_at hl 1 rfl) ?_
  obtain ⟨u1, eu⟩ : ∃ z, z = S_s_kept u p1 := ⟨_, rfl⟩
  have hm := lt_t eu hm
  refine kput C X 0 (ci := 3) rfl rfl hinX3 tyX3_ok nmX3 2 (by decide) hf19 rfl (ty := .int) (v := .int p1) rfl rfl rfl (Nat.le_of_ble_eq_true rfl) (w2 := wS g a u1) (by subst eu; rfl) dX3_keepOnly_2 (fun H locs X => ?_)
  clear eu
  cases sm hm
  exact kvret C X dX3_keepOnly_5
-- X3 BrushStrokes$Stroke.removeAll()V
abbrev rX3_removeAll : Room := { frames := 0, cells := 0, slots := 0, locals := 0 }
theorem fl_X3_removeAll_15 : (Cond.fieldLink RX3 15 "BrushStrokes$Stroke" "size" "I") ∈ wsX3_removeAll := by decide +kernel
theorem fl_X3_removeAll_19 : (Cond.fieldLink RX3 19 "BrushStrokes$Stroke" "kept" "I") ∈ wsX3_removeAll := by decide +kernel
theorem in_X3_removeAll_X3 : ∀ w ∈ u_ws RX3 TX3 3, w ∈ wsX3_removeAll := by decide +kernel
noncomputable def fX3_removeAll (u : SS) : Option (SS) := lt (S_s_size u 0) fun u1 => lt (S_s_kept u1 0) fun u2 => some u2
set_option maxRecDepth 100000 in
set_option maxHeartbeats 4000000 in
theorem kX3_removeAll (l : Launch) (g : kG) (a : Nat → Nat) (u : SS) (o1 : SS) (hm : fX3_removeAll u = some o1) : KM l yX3_removeAll wsX3_removeAll rX3_removeAll g [.ref (a 0)] (wS g a u) none (wS g a o1) 0 0 := by
  refine KM.of (nL := 1) (by decide) rfl (Nat.le_of_ble_eq_true rfl) ?_
  intro p e s m args below meth c A ls C X hl
  have C : CT g p s m args meth c RX3 cX3_removeAll 1 none wsX3_removeAll A := C
  have hx := C.1
  have hb := C.2.1
  have hl : lv_has ls 1 [(0, .ref (a 0))] := hl
  have hinX3 := in_X3_removeAll_X3
  have hf15 := C.2.2.2.2.2.1 _ fl_X3_removeAll_15
  have hf19 := C.2.2.2.2.2.1 _ fl_X3_removeAll_19
  rw [fX3_removeAll] at hm
  refine lv_aload_n hx hb dX3_removeAll_0 rfl (lv_at hl 0 rfl) ?_
  refine lv_iconst (v := 0) hx hb dX3_removeAll_1 (by decide) ?_
  obtain ⟨u1, eu⟩ : ∃ z, z = S_s_size u 0 := ⟨_, rfl⟩
  have hm := lt_t eu hm
  refine kput C X 0 (ci := 3) rfl rfl hinX3 tyX3_ok nmX3 1 (by decide) hf15 rfl (ty := .int) (v := .int 0) rfl rfl rfl (Nat.le_of_ble_eq_true rfl) (w2 := wS g a u1) (by subst eu; rfl) dX3_removeAll_2 (fun H locs X => ?_)
  clear eu
  refine lv_aload_n hx hb dX3_removeAll_5 rfl (lv_at hl 0 rfl) ?_
  refine lv_iconst (v := 0) hx hb dX3_removeAll_6 (by decide) ?_
  obtain ⟨u2, eu⟩ : ∃ z, z = S_s_kept u1 0 := ⟨_, rfl⟩
  have hm := lt_t eu hm
  refine kput C X 0 (ci := 3) rfl rfl hinX3 tyX3_ok nmX3 2 (by decide) hf19 rfl (ty := .int) (v := .int 0) rfl rfl rfl (Nat.le_of_ble_eq_true rfl) (w2 := wS g a u2) (by subst eu; rfl) dX3_removeAll_7 (fun H locs X => ?_)
  clear eu
  cases sm hm
  exact kvret C X dX3_removeAll_10
-- X3 BrushStrokes$Stroke.putPoint(IIII)V
abbrev rX3_putPoint : Room := { frames := 0, cells := 0, slots := 0, locals := 0 }
theorem fl_X3_putPoint_11 : (Cond.fieldLink RX3 11 "BrushStrokes$Stroke" "numbers" "[I") ∈ wsX3_putPoint := by decide +kernel
theorem in_X3_putPoint_X3 : ∀ w ∈ u_ws RX3 TX3 3, w ∈ wsX3_putPoint := by decide +kernel
noncomputable def fX3_putPoint (p1 : Int32) (p2 : Int32) (p3 : Int32) (p4 : Int32) (u : SS) : Option (SS) := ((if (3 * p1) < 0 then (some u) else (if (72 - 2) ≤ (3 * p1) then (some u) else (gd (inb (3 * p1) 72) (lt (S_s_numbers u (upd (S_numbers u) (3 * p1).toNatClampNeg p2)) fun u5 => gd (inb ((3 * p1) + 1) 72) (lt (S_s_numbers u5 (upd (S_numbers u5) ((3 * p1) + 1).toNatClampNeg p3)) fun u6 => gd (inb ((3 * p1) + 2) 72) (lt (S_s_numbers u6 (upd (S_numbers u6) ((3 * p1) + 2).toNatClampNeg p4)) fun u7 => some u7)))))) : Option (SS)).bind fun u4 => some u4
set_option maxRecDepth 100000 in
set_option maxHeartbeats 4000000 in
theorem kX3_putPoint (l : Launch) (g : kG) (a : Nat → Nat) (p1 : Int32) (p2 : Int32) (p3 : Int32) (p4 : Int32) (u : SS) (o1 : SS) (hm : fX3_putPoint p1 p2 p3 p4 u = some o1) : KM l yX3_putPoint wsX3_putPoint rX3_putPoint g [.ref (a 0), .int p1, .int p2, .int p3, .int p4] (wS g a u) none (wS g a o1) 0 0 := by
  refine KM.of (nL := 6) (by decide) rfl (Nat.le_of_ble_eq_true rfl) ?_
  intro p e s m args below meth c A ls C X hl
  have C : CT g p s m args meth c RX3 cX3_putPoint 6 none wsX3_putPoint A := C
  have hx := C.1
  have hb := C.2.1
  have hl : lv_has ls 6 [(0, .ref (a 0)), (1, .int p1), (2, .int p2), (3, .int p3), (4, .int p4)] := hl
  have hinX3 := in_X3_putPoint_X3
  have hf11 := C.2.2.2.2.2.1 _ fl_X3_putPoint_11
  rw [fX3_putPoint] at hm
  refine lv_iconst (v := 3) hx hb dX3_putPoint_0 (by decide) ?_
  refine lv_iload_n hx hb dX3_putPoint_1 rfl (lv_at hl 1 rfl) ?_
  refine lv_imul hx hb dX3_putPoint_2 ?_
  refine lv_istore (lv' := [(5, .int (3 * p1)), (0, .ref (a 0)), (1, .int p1), (2, .int p2), (3, .int p3), (4, .int p4)]) hx hb dX3_putPoint_3 hl (by decide) rfl (fun ls hl => ?_)
  refine lv_iload hx hb dX3_putPoint_5 (lv_at hl 0 rfl) ?_
  obtain ⟨u4, hE, hm⟩ := bnd hm
  have K : ∀ (H : Heap) (locs : List Loc) (ls : Array Slot), ST g A s H locs (wS g a u4) → lv_has ls 6 [] → W p l e rX3_putPoint s m args below meth c H locs 0 0 (kEnd g below args s none (wS g a o1) A 0 0) (F0 m 51 ls []) := by
    intro H locs ls X hl
    clear hE
    cases sm hm
    exact kvret C X dX3_putPoint_51
  clear hm
  have hm := hE
  clear hE
  refine lv_if_lt (tgt := 51) hx hb dX3_putPoint_7 (by decide) (fun hc => ?_) (fun hc => ?_)
  · have hm := ifp hc hm
    cases sm hm
    exact K _ _ _ X (lv_sub hl [] rfl)
  · have hm := ifn hc hm
    refine lv_iload hx hb dX3_putPoint_10 (lv_at hl 0 rfl) ?_
    refine lv_aload_n hx hb dX3_putPoint_12 rfl (lv_at hl 1 rfl) ?_
    refine kget C X 0 (ci := 3) rfl rfl hinX3 0 (by decide) hf11 (v := .ref (a 1)) rfl dX3_putPoint_13 ?_
    refine kalen C X 1 rfl (v := 72) rfl dX3_putPoint_16 ?_
    refine lv_iconst (v := 2) hx hb dX3_putPoint_17 (by decide) ?_
    refine lv_isub hx hb dX3_putPoint_18 ?_
    refine lv_icmp_ge (tgt := 51) hx hb dX3_putPoint_19 (by decide) (fun hc => ?_) (fun hc => ?_)
    · have hm := ifp hc hm
      cases sm hm
      exact K _ _ _ X (lv_sub hl [] rfl)
    · have hm := ifn hc hm
      refine lv_aload_n hx hb dX3_putPoint_22 rfl (lv_at hl 1 rfl) ?_
      refine kget C X 0 (ci := 3) rfl rfl hinX3 0 (by decide) hf11 (v := .ref (a 1)) rfl dX3_putPoint_23 ?_
      refine lv_iload hx hb dX3_putPoint_26 (lv_at hl 0 rfl) ?_
      refine lv_iload_n hx hb dX3_putPoint_28 rfl (lv_at hl 3 rfl) ?_
      obtain ⟨hgi, hm⟩ := gd_t hm
      obtain ⟨u5, eu⟩ : ∃ z, z = S_s_numbers u (upd (S_numbers u) (3 * p1).toNatClampNeg p2) := ⟨_, rfl⟩
      have hm := lt_t eu hm
      refine kiast C X 1 rfl hgi (w2 := wS g a u5) (by subst eu; rfl) dX3_putPoint_29 (fun H locs X => ?_)
      clear eu
      refine lv_aload_n hx hb dX3_putPoint_30 rfl (lv_at hl 1 rfl) ?_
      refine kget C X 0 (ci := 3) rfl rfl hinX3 0 (by decide) hf11 (v := .ref (a 1)) rfl dX3_putPoint_31 ?_
      refine lv_iload hx hb dX3_putPoint_34 (lv_at hl 0 rfl) ?_
      refine lv_iconst (v := 1) hx hb dX3_putPoint_36 (by decide) ?_
      refine lv_iadd hx hb dX3_putPoint_37 ?_
      refine lv_iload_n hx hb dX3_putPoint_38 rfl (lv_at hl 4 rfl) ?_
      obtain ⟨hgi, hm⟩ := gd_t hm
      obtain ⟨u6, eu⟩ : ∃ z, z = S_s_numbers u5 (upd (S_numbers u5) ((3 * p1) + 1).toNatClampNeg p3) := ⟨_, rfl⟩
      have hm := lt_t eu hm
      refine kiast C X 1 rfl hgi (w2 := wS g a u6) (by subst eu; rfl) dX3_putPoint_39 (fun H locs X => ?_)
      clear eu
      refine lv_aload_n hx hb dX3_putPoint_40 rfl (lv_at hl 1 rfl) ?_
      refine kget C X 0 (ci := 3) rfl rfl hinX3 0 (by decide) hf11 (v := .ref (a 1)) rfl dX3_putPoint_41 ?_
      refine lv_iload hx hb dX3_putPoint_44 (lv_at hl 0 rfl) ?_
      refine lv_iconst (v := 2) hx hb dX3_putPoint_46 (by decide) ?_
      refine lv_iadd hx hb dX3_putPoint_47 ?_
      refine lv_iload hx hb dX3_putPoint_48 (lv_at hl 5 rfl) ?_
      obtain ⟨hgi, hm⟩ := gd_t hm
      obtain ⟨u7, eu⟩ : ∃ z, z = S_s_numbers u6 (upd (S_numbers u6) ((3 * p1) + 2).toNatClampNeg p4) := ⟨_, rfl⟩
      have hm := lt_t eu hm
      refine kiast C X 1 rfl hgi (w2 := wS g a u7) (by subst eu; rfl) dX3_putPoint_50 (fun H locs X => ?_)
      clear eu
      cases sm hm
      exact K _ _ _ X (lv_sub hl [] rfl)
-- X3 BrushStrokes$Stroke.addPoint(III)V
abbrev rX3_addPoint : Room := { frames := 1, cells := 0, slots := 0, locals := 25 }
theorem fl_X3_addPoint_15 : (Cond.fieldLink RX3 15 "BrushStrokes$Stroke" "size" "I") ∈ wsX3_addPoint := by decide +kernel
theorem in_X3_addPoint_X3 : ∀ w ∈ u_ws RX3 TX3 3, w ∈ wsX3_addPoint := by decide +kernel
theorem cw_X3_addPoint_X3_putPoint_36 {p : Program} {s : State} {m : MethodId} {args : Array Value} {meth : Method} {c : Code} {g : kG} {A : Nat → Prop} (C : CT g p s m args meth c RX3 cX3_addPoint 4 none wsX3_addPoint A) : CallW rX3_addPoint s args RX3 RX3 36 yX3_putPoint cX3_putPoint 6 none wsX3_putPoint rX3_putPoint 0 0 4 := cwV 4 C.2.2.2.2.2.1 gX3_addPoint_X3_putPoint rfl rfl rfl (by decide +kernel) ⟨Nat.le_of_ble_eq_true rfl, Nat.le_of_ble_eq_true rfl⟩
theorem cw_X3_addPoint_X3_keepAll_40 {p : Program} {s : State} {m : MethodId} {args : Array Value} {meth : Method} {c : Code} {g : kG} {A : Nat → Prop} (C : CT g p s m args meth c RX3 cX3_addPoint 4 none wsX3_addPoint A) : CallW rX3_addPoint s args RX3 RX3 40 yX3_keepAll cX3_keepAll 1 none wsX3_keepAll rX3_keepAll 0 0 0 := cwV 0 C.2.2.2.2.2.1 gX3_addPoint_X3_keepAll rfl rfl rfl (by decide +kernel) ⟨Nat.le_of_ble_eq_true rfl, Nat.le_of_ble_eq_true rfl⟩
noncomputable def fX3_addPoint (p1 : Int32) (p2 : Int32) (p3 : Int32) (u : SS) : Option (SS) := ((if 24 ≤ (S_size u) then (some u) else ((fX3_putPoint (S_size u) p1 p2 p3 u).bind fun u5 => lt (S_s_size u5 ((S_size u5) + 1)) fun u6 => (fX3_keepAll u6).bind fun u7 => some u7)) : Option (SS)).bind fun u4 => some u4
set_option maxRecDepth 100000 in
set_option maxHeartbeats 4000000 in
theorem kX3_addPoint (l : Launch) (g : kG) (a : Nat → Nat) (p1 : Int32) (p2 : Int32) (p3 : Int32) (u : SS) (o1 : SS) (hm : fX3_addPoint p1 p2 p3 u = some o1) : KM l yX3_addPoint wsX3_addPoint rX3_addPoint g [.ref (a 0), .int p1, .int p2, .int p3] (wS g a u) none (wS g a o1) 0 0 := by
  refine KM.of (nL := 4) (by decide) rfl (Nat.le_of_ble_eq_true rfl) ?_
  intro p e s m args below meth c A ls C X hl
  have C : CT g p s m args meth c RX3 cX3_addPoint 4 none wsX3_addPoint A := C
  have hx := C.1
  have hb := C.2.1
  have hl : lv_has ls 4 [(0, .ref (a 0)), (1, .int p1), (2, .int p2), (3, .int p3)] := hl
  have hinX3 := in_X3_addPoint_X3
  have hf15 := C.2.2.2.2.2.1 _ fl_X3_addPoint_15
  rw [fX3_addPoint] at hm
  refine lv_aload_n hx hb dX3_addPoint_0 rfl (lv_at hl 0 rfl) ?_
  refine kget C X 0 (ci := 3) rfl rfl hinX3 1 (by decide) hf15 (v := .int (S_size u)) rfl dX3_addPoint_1 ?_
  refine lv_bipush (v := 24) hx hb dX3_addPoint_4 (by decide) ?_
  obtain ⟨u4, hE, hm⟩ := bnd hm
  have K : ∀ (H : Heap) (locs : List Loc) (ls : Array Slot), ST g A s H locs (wS g a u4) → lv_has ls 4 [] → W p l e rX3_addPoint s m args below meth c H locs 0 0 (kEnd g below args s none (wS g a o1) A 0 0) (F0 m 34 ls []) := by
    intro H locs ls X hl
    clear hE
    cases sm hm
    exact kvret C X dX3_addPoint_34
  clear hm
  have hm := hE
  clear hE
  refine lv_icmp_ge (tgt := 34) hx hb dX3_addPoint_6 (by decide) (fun hc => ?_) (fun hc => ?_)
  · have hm := ifp hc hm
    cases sm hm
    exact K _ _ _ X (lv_sub hl [] rfl)
  · have hm := ifn hc hm
    refine lv_aload_n hx hb dX3_addPoint_9 rfl (lv_at hl 0 rfl) ?_
    refine lv_aload_n hx hb dX3_addPoint_10 rfl (lv_at hl 0 rfl) ?_
    refine kget C X 0 (ci := 3) rfl rfl hinX3 1 (by decide) hf15 (v := .int (S_size u)) rfl dX3_addPoint_11 ?_
    refine lv_iload_n hx hb dX3_addPoint_14 rfl (lv_at hl 1 rfl) ?_
    refine lv_iload_n hx hb dX3_addPoint_15 rfl (lv_at hl 2 rfl) ?_
    refine lv_iload_n hx hb dX3_addPoint_16 rfl (lv_at hl 3 rfl) ?_
    obtain ⟨u5, hcl, hm⟩ := bnd hm
    refine kVW C X (kX3_putPoint l g a (S_size u) p1 p2 p3 u u5 hcl) (cw_X3_addPoint_X3_putPoint_36 C) 0 (ci := 3) rfl rfl (As := [.int (S_size u), .int p1, .int p2, .int p3]) rfl hl (rest := []) rfl (Nat.le_of_ble_eq_true rfl) (st2 := []) rfl dX3_addPoint_17 ⟨Nat.le_of_ble_eq_true rfl, Nat.le_of_ble_eq_true rfl⟩ (fun H locs X => ?_)
    clear hcl
    refine lv_aload_n hx hb dX3_addPoint_20 rfl (lv_at hl 0 rfl) ?_
    refine lv_dup hx hb dX3_addPoint_21 rfl ?_
    refine kget C X 0 (ci := 3) rfl rfl hinX3 1 (by decide) hf15 (v := .int (S_size u5)) rfl dX3_addPoint_22 ?_
    refine lv_iconst (v := 1) hx hb dX3_addPoint_25 (by decide) ?_
    refine lv_iadd hx hb dX3_addPoint_26 ?_
    obtain ⟨u6, eu⟩ : ∃ z, z = S_s_size u5 ((S_size u5) + 1) := ⟨_, rfl⟩
    have hm := lt_t eu hm
    refine kput C X 0 (ci := 3) rfl rfl hinX3 tyX3_ok nmX3 1 (by decide) hf15 rfl (ty := .int) (v := .int ((S_size u5) + 1)) rfl rfl rfl (Nat.le_of_ble_eq_true rfl) (w2 := wS g a u6) (by subst eu; rfl) dX3_addPoint_27 (fun H locs X => ?_)
    clear eu
    refine lv_aload_n hx hb dX3_addPoint_30 rfl (lv_at hl 0 rfl) ?_
    obtain ⟨u7, hcl, hm⟩ := bnd hm
    refine kVW C X (kX3_keepAll l g a u6 u7 hcl) (cw_X3_addPoint_X3_keepAll_40 C) 0 (ci := 3) rfl rfl (As := []) rfl hl (rest := []) rfl (Nat.le_of_ble_eq_true rfl) (st2 := []) rfl dX3_addPoint_31 ⟨Nat.le_of_ble_eq_true rfl, Nat.le_of_ble_eq_true rfl⟩ (fun H locs X => ?_)
    clear hcl
    cases sm hm
    exact K _ _ _ X (lv_sub hl [] rfl)
-- X3 BrushStrokes$Stroke.insertPoint(IIII)V
abbrev rX3_insertPoint : Room := { frames := 1, cells := 0, slots := 0, locals := 25 }
theorem fl_X3_insertPoint_15 : (Cond.fieldLink RX3 15 "BrushStrokes$Stroke" "size" "I") ∈ wsX3_insertPoint := by decide +kernel
theorem in_X3_insertPoint_X3 : ∀ w ∈ u_ws RX3 TX3 3, w ∈ wsX3_insertPoint := by decide +kernel
theorem cw_X3_insertPoint_X3_x_43 {p : Program} {s : State} {m : MethodId} {args : Array Value} {meth : Method} {c : Code} {g : kG} {A : Nat → Prop} (C : CT g p s m args meth c RX3 cX3_insertPoint 6 none wsX3_insertPoint A) : CallW rX3_insertPoint s args RX3 RX3 43 yX3_x cX3_x 3 (some .int) wsX3_x rX3_x 0 0 1 := cwV 1 C.2.2.2.2.2.1 gX3_insertPoint_X3_x rfl rfl rfl (by decide +kernel) ⟨Nat.le_of_ble_eq_true rfl, Nat.le_of_ble_eq_true rfl⟩
theorem cw_X3_insertPoint_X3_y_46 {p : Program} {s : State} {m : MethodId} {args : Array Value} {meth : Method} {c : Code} {g : kG} {A : Nat → Prop} (C : CT g p s m args meth c RX3 cX3_insertPoint 6 none wsX3_insertPoint A) : CallW rX3_insertPoint s args RX3 RX3 46 yX3_y cX3_y 3 (some .int) wsX3_y rX3_y 0 0 1 := cwV 1 C.2.2.2.2.2.1 gX3_insertPoint_X3_y rfl rfl rfl (by decide +kernel) ⟨Nat.le_of_ble_eq_true rfl, Nat.le_of_ble_eq_true rfl⟩
theorem cw_X3_insertPoint_X3_width_49 {p : Program} {s : State} {m : MethodId} {args : Array Value} {meth : Method} {c : Code} {g : kG} {A : Nat → Prop} (C : CT g p s m args meth c RX3 cX3_insertPoint 6 none wsX3_insertPoint A) : CallW rX3_insertPoint s args RX3 RX3 49 yX3_width cX3_width 3 (some .int) wsX3_width rX3_width 0 0 1 := cwV 1 C.2.2.2.2.2.1 gX3_insertPoint_X3_width rfl rfl rfl (by decide +kernel) ⟨Nat.le_of_ble_eq_true rfl, Nat.le_of_ble_eq_true rfl⟩
theorem cw_X3_insertPoint_X3_putPoint_36 {p : Program} {s : State} {m : MethodId} {args : Array Value} {meth : Method} {c : Code} {g : kG} {A : Nat → Prop} (C : CT g p s m args meth c RX3 cX3_insertPoint 6 none wsX3_insertPoint A) : CallW rX3_insertPoint s args RX3 RX3 36 yX3_putPoint cX3_putPoint 6 none wsX3_putPoint rX3_putPoint 0 0 4 := cwV 4 C.2.2.2.2.2.1 gX3_insertPoint_X3_putPoint rfl rfl rfl (by decide +kernel) ⟨Nat.le_of_ble_eq_true rfl, Nat.le_of_ble_eq_true rfl⟩
theorem cw_X3_insertPoint_X3_keepAll_40 {p : Program} {s : State} {m : MethodId} {args : Array Value} {meth : Method} {c : Code} {g : kG} {A : Nat → Prop} (C : CT g p s m args meth c RX3 cX3_insertPoint 6 none wsX3_insertPoint A) : CallW rX3_insertPoint s args RX3 RX3 40 yX3_keepAll cX3_keepAll 1 none wsX3_keepAll rX3_keepAll 0 0 0 := cwV 0 C.2.2.2.2.2.1 gX3_insertPoint_X3_keepAll rfl rfl rfl (by decide +kernel) ⟨Nat.le_of_ble_eq_true rfl, Nat.le_of_ble_eq_true rfl⟩
noncomputable def bX3_insertPoint_16 (c1 : Int32) : Int32 × SS → Option ((Int32 × SS) ⊕ (SS))
  | (x5, u6) => if x5 ≤ c1 then (some (.inr u6)) else ((fX3_x (x5 - 1) u6).bind fun r8 => (fX3_y (x5 - 1) u6).bind fun r9 => (fX3_width (x5 - 1) u6).bind fun r10 => (fX3_putPoint x5 r8 r9 r10 u6).bind fun u11 => some (.inl (x5 + (-1), u11)))
noncomputable def lX3_insertPoint_16 (c1 : Int32) (x5 : Int32) (u6 : SS) : Option (SS) := lp (bX3_insertPoint_16 c1) (x5, u6)
theorem lX3_insertPoint_16_eq (c1 : Int32) (x5 : Int32) (u6 : SS) : lX3_insertPoint_16 c1 x5 u6 = (if x5 ≤ c1 then (some (.inr u6)) else ((fX3_x (x5 - 1) u6).bind fun r8 => (fX3_y (x5 - 1) u6).bind fun r9 => (fX3_width (x5 - 1) u6).bind fun r10 => (fX3_putPoint x5 r8 r9 r10 u6).bind fun u11 => some (.inl (x5 + (-1), u11)))).bind fun r => Sum.elim (fun z => lX3_insertPoint_16 c1 z.1 z.2) (fun r => some r) r := lp_eq (bX3_insertPoint_16 c1) (x5, u6)
set_option maxRecDepth 100000 in
set_option maxHeartbeats 4000000 in
theorem tX3_insertPoint_16 {p : Program} {l : Launch} {e : Env} {s : State} {m : MethodId} {args : Array Value} {below : List Frame} {meth : Method} {c : Code} {g : kG} {A : Nat → Prop} {Q : State → Prop} (a : Nat → Nat) (C : CT g p s m args meth c RX3 cX3_insertPoint 6 none wsX3_insertPoint A) (c1 : Int32) (c2 : Int32) (c3 : Int32) (c4 : Int32) (u7 : SS) (kk : ∀ (H : Heap) (locs : List Loc) (ls : Array Slot), ST g A s H locs (wS g a u7) → lv_has ls 6 [(0, .ref (a 0)), (1, .int c1), (2, .int c2), (3, .int c3), (4, .int c4)] → W p l e rX3_insertPoint s m args below meth c H locs 0 0 Q (F0 m 58 ls [])) : ∀ (n : Nat) (x5 : Int32) (u6 : SS), whl (bX3_insertPoint_16 c1) n (x5, u6) = some u7 → ∀ (H : Heap) (locs : List Loc) (ls : Array Slot), ST g A s H locs (wS g a u6) → lv_has ls 6 [(0, .ref (a 0)), (1, .int c1), (2, .int c2), (3, .int c3), (4, .int c4), (5, .int x5)] → W p l e rX3_insertPoint s m args below meth c H locs 0 0 Q (F0 m 16 ls []) := by
  have hx := C.1
  have hb := C.2.1
  intro n
  induction n with
  | zero =>
    intro x5 u6 hm
    cases hm
  | succ n ih =>
    intro x5 u6 hm H locs ls X hl
    rw [whl] at hm
    obtain ⟨q, hq, hm2⟩ := bnd hm
    clear hm
    have hm := hq
    clear hq
    rw [bX3_insertPoint_16] at hm
    refine lv_iload hx hb dX3_insertPoint_16 (lv_at hl 5 rfl) ?_
    refine lv_iload_n hx hb dX3_insertPoint_18 rfl (lv_at hl 1 rfl) ?_
    refine lv_icmp_le (tgt := 58) hx hb dX3_insertPoint_19 (by decide) (fun hc => ?_) (fun hc => ?_)
    · have hm := ifp hc hm
      cases sm hm
      cases sm hm2
      exact kk _ _ _ X (lv_sub hl [0, 1, 2, 3, 4] rfl)
    · have hm := ifn hc hm
      refine lv_aload_n hx hb dX3_insertPoint_22 rfl (lv_at hl 0 rfl) ?_
      refine lv_iload hx hb dX3_insertPoint_23 (lv_at hl 5 rfl) ?_
      refine lv_aload_n hx hb dX3_insertPoint_25 rfl (lv_at hl 0 rfl) ?_
      refine lv_iload hx hb dX3_insertPoint_26 (lv_at hl 5 rfl) ?_
      refine lv_iconst (v := 1) hx hb dX3_insertPoint_28 (by decide) ?_
      refine lv_isub hx hb dX3_insertPoint_29 ?_
      obtain ⟨r8, hcl, hm⟩ := bnd hm
      refine kVW C X (kX3_x l g a (x5 - 1) u6 r8 hcl) (cw_X3_insertPoint_X3_x_43 C) 0 (ci := 3) rfl rfl (As := [.int (x5 - 1)]) rfl hl (rest := [.int x5, .ref (a 0)]) rfl (Nat.le_of_ble_eq_true rfl) (st2 := [.int r8, .int x5, .ref (a 0)]) rfl dX3_insertPoint_30 ⟨Nat.le_of_ble_eq_true rfl, Nat.le_of_ble_eq_true rfl⟩ (fun H locs X => ?_)
      clear hcl
      refine lv_aload_n hx hb dX3_insertPoint_33 rfl (lv_at hl 0 rfl) ?_
      refine lv_iload hx hb dX3_insertPoint_34 (lv_at hl 5 rfl) ?_
      refine lv_iconst (v := 1) hx hb dX3_insertPoint_36 (by decide) ?_
      refine lv_isub hx hb dX3_insertPoint_37 ?_
      obtain ⟨r9, hcl, hm⟩ := bnd hm
      refine kVW C X (kX3_y l g a (x5 - 1) u6 r9 hcl) (cw_X3_insertPoint_X3_y_46 C) 0 (ci := 3) rfl rfl (As := [.int (x5 - 1)]) rfl hl (rest := [.int r8, .int x5, .ref (a 0)]) rfl (Nat.le_of_ble_eq_true rfl) (st2 := [.int r9, .int r8, .int x5, .ref (a 0)]) rfl dX3_insertPoint_38 ⟨Nat.le_of_ble_eq_true rfl, Nat.le_of_ble_eq_true rfl⟩ (fun H locs X => ?_)
      clear hcl
      refine lv_aload_n hx hb dX3_insertPoint_41 rfl (lv_at hl 0 rfl) ?_
      refine lv_iload hx hb dX3_insertPoint_42 (lv_at hl 5 rfl) ?_
      refine lv_iconst (v := 1) hx hb dX3_insertPoint_44 (by decide) ?_
      refine lv_isub hx hb dX3_insertPoint_45 ?_
      obtain ⟨r10, hcl, hm⟩ := bnd hm
      refine kVW C X (kX3_width l g a (x5 - 1) u6 r10 hcl) (cw_X3_insertPoint_X3_width_49 C) 0 (ci := 3) rfl rfl (As := [.int (x5 - 1)]) rfl hl (rest := [.int r9, .int r8, .int x5, .ref (a 0)]) rfl (Nat.le_of_ble_eq_true rfl) (st2 := [.int r10, .int r9, .int r8, .int x5, .ref (a 0)]) rfl dX3_insertPoint_46 ⟨Nat.le_of_ble_eq_true rfl, Nat.le_of_ble_eq_true rfl⟩ (fun H locs X => ?_)
      clear hcl
      obtain ⟨u11, hcl, hm⟩ := bnd hm
      refine kVW C X (kX3_putPoint l g a x5 r8 r9 r10 u6 u11 hcl) (cw_X3_insertPoint_X3_putPoint_36 C) 0 (ci := 3) rfl rfl (As := [.int x5, .int r8, .int r9, .int r10]) rfl hl (rest := []) rfl (Nat.le_of_ble_eq_true rfl) (st2 := []) rfl dX3_insertPoint_49 ⟨Nat.le_of_ble_eq_true rfl, Nat.le_of_ble_eq_true rfl⟩ (fun H locs X => ?_)
      clear hcl
      refine lv_iinc (v := x5 + (-1)) (lv' := [(5, .int (x5 + (-1))), (0, .ref (a 0)), (1, .int c1), (2, .int c2), (3, .int c3), (4, .int c4)]) hx hb dX3_insertPoint_52 hl (k := 5) rfl rfl (by decide) rfl (fun ls hl => ?_)
      refine lv_goto (tgt := 16) hx hb dX3_insertPoint_55 (by decide) ?_
      cases sm hm
      exact ih _ _ hm2 _ _ _ X (lv_sub hl [1, 2, 3, 4, 5, 0] rfl)
noncomputable def fX3_insertPoint (p1 : Int32) (p2 : Int32) (p3 : Int32) (p4 : Int32) (u : SS) : Option (SS) := if (S_size u) < 24 then ((lX3_insertPoint_16 p1 (S_size u) u).bind fun u12 => (fX3_putPoint p1 p2 p3 p4 u12).bind fun u13 => lt (S_s_size u13 ((S_size u13) + 1)) fun u14 => (fX3_keepAll u14).bind fun u15 => some u15) else (some u)
set_option maxRecDepth 100000 in
set_option maxHeartbeats 4000000 in
theorem kX3_insertPoint (l : Launch) (g : kG) (a : Nat → Nat) (p1 : Int32) (p2 : Int32) (p3 : Int32) (p4 : Int32) (u : SS) (o1 : SS) (hm : fX3_insertPoint p1 p2 p3 p4 u = some o1) : KM l yX3_insertPoint wsX3_insertPoint rX3_insertPoint g [.ref (a 0), .int p1, .int p2, .int p3, .int p4] (wS g a u) none (wS g a o1) 0 0 := by
  refine KM.of (nL := 6) (by decide) rfl (Nat.le_of_ble_eq_true rfl) ?_
  intro p e s m args below meth c A ls C X hl
  have C : CT g p s m args meth c RX3 cX3_insertPoint 6 none wsX3_insertPoint A := C
  have hx := C.1
  have hb := C.2.1
  have hl : lv_has ls 6 [(0, .ref (a 0)), (1, .int p1), (2, .int p2), (3, .int p3), (4, .int p4)] := hl
  have hinX3 := in_X3_insertPoint_X3
  have hf15 := C.2.2.2.2.2.1 _ fl_X3_insertPoint_15
  rw [fX3_insertPoint] at hm
  refine lv_aload_n hx hb dX3_insertPoint_0 rfl (lv_at hl 0 rfl) ?_
  refine kget C X 0 (ci := 3) rfl rfl hinX3 1 (by decide) hf15 (v := .int (S_size u)) rfl dX3_insertPoint_1 ?_
  refine lv_bipush (v := 24) hx hb dX3_insertPoint_4 (by decide) ?_
  refine lv_icmp_lt (tgt := 10) hx hb dX3_insertPoint_6 (by decide) (fun hc => ?_) (fun hc => ?_)
  · have hm := ifp hc hm
    refine lv_aload_n hx hb dX3_insertPoint_10 rfl (lv_at hl 0 rfl) ?_
    refine kget C X 0 (ci := 3) rfl rfl hinX3 1 (by decide) hf15 (v := .int (S_size u)) rfl dX3_insertPoint_11 ?_
    refine lv_istore (lv' := [(5, .int (S_size u)), (0, .ref (a 0)), (1, .int p1), (2, .int p2), (3, .int p3), (4, .int p4)]) hx hb dX3_insertPoint_14 hl (by decide) rfl (fun ls hl => ?_)
    obtain ⟨u12, hL, hm⟩ := bnd hm
    obtain ⟨nn, hn⟩ := lp_run hL
    refine tX3_insertPoint_16 a C p1 p2 p3 p4 u12 (fun H locs ls X hl => ?_) nn _ _ hn _ _ _ X (lv_sub hl [1, 2, 3, 4, 5, 0] rfl)
    clear hL hn
    refine lv_aload_n hx hb dX3_insertPoint_58 rfl (lv_at hl 0 rfl) ?_
    refine lv_iload_n hx hb dX3_insertPoint_59 rfl (lv_at hl 1 rfl) ?_
    refine lv_iload_n hx hb dX3_insertPoint_60 rfl (lv_at hl 2 rfl) ?_
    refine lv_iload_n hx hb dX3_insertPoint_61 rfl (lv_at hl 3 rfl) ?_
    refine lv_iload hx hb dX3_insertPoint_62 (lv_at hl 4 rfl) ?_
    obtain ⟨u13, hcl, hm⟩ := bnd hm
    refine kVW C X (kX3_putPoint l g a p1 p2 p3 p4 u12 u13 hcl) (cw_X3_insertPoint_X3_putPoint_36 C) 0 (ci := 3) rfl rfl (As := [.int p1, .int p2, .int p3, .int p4]) rfl hl (rest := []) rfl (Nat.le_of_ble_eq_true rfl) (st2 := []) rfl dX3_insertPoint_64 ⟨Nat.le_of_ble_eq_true rfl, Nat.le_of_ble_eq_true rfl⟩ (fun H locs X => ?_)
    clear hcl
    refine lv_aload_n hx hb dX3_insertPoint_67 rfl (lv_at hl 0 rfl) ?_
    refine lv_dup hx hb dX3_insertPoint_68 rfl ?_
    refine kget C X 0 (ci := 3) rfl rfl hinX3 1 (by decide) hf15 (v := .int (S_size u13)) rfl dX3_insertPoint_69 ?_
    refine lv_iconst (v := 1) hx hb dX3_insertPoint_72 (by decide) ?_
    refine lv_iadd hx hb dX3_insertPoint_73 ?_
    obtain ⟨u14, eu⟩ : ∃ z, z = S_s_size u13 ((S_size u13) + 1) := ⟨_, rfl⟩
    have hm := lt_t eu hm
    refine kput C X 0 (ci := 3) rfl rfl hinX3 tyX3_ok nmX3 1 (by decide) hf15 rfl (ty := .int) (v := .int ((S_size u13) + 1)) rfl rfl rfl (Nat.le_of_ble_eq_true rfl) (w2 := wS g a u14) (by subst eu; rfl) dX3_insertPoint_74 (fun H locs X => ?_)
    clear eu
    refine lv_aload_n hx hb dX3_insertPoint_77 rfl (lv_at hl 0 rfl) ?_
    obtain ⟨u15, hcl, hm⟩ := bnd hm
    refine kVW C X (kX3_keepAll l g a u14 u15 hcl) (cw_X3_insertPoint_X3_keepAll_40 C) 0 (ci := 3) rfl rfl (As := []) rfl hl (rest := []) rfl (Nat.le_of_ble_eq_true rfl) (st2 := []) rfl dX3_insertPoint_78 ⟨Nat.le_of_ble_eq_true rfl, Nat.le_of_ble_eq_true rfl⟩ (fun H locs X => ?_)
    clear hcl
    cases sm hm
    exact kvret C X dX3_insertPoint_81
  · have hm := ifn hc hm
    cases sm hm
    exact kvret C X dX3_insertPoint_9
-- X3 BrushStrokes$Stroke.removePoint(I)V
abbrev rX3_removePoint : Room := { frames := 1, cells := 0, slots := 0, locals := 25 }
theorem fl_X3_removePoint_15 : (Cond.fieldLink RX3 15 "BrushStrokes$Stroke" "size" "I") ∈ wsX3_removePoint := by decide +kernel
theorem in_X3_removePoint_X3 : ∀ w ∈ u_ws RX3 TX3 3, w ∈ wsX3_removePoint := by decide +kernel
theorem cw_X3_removePoint_X3_x_43 {p : Program} {s : State} {m : MethodId} {args : Array Value} {meth : Method} {c : Code} {g : kG} {A : Nat → Prop} (C : CT g p s m args meth c RX3 cX3_removePoint 3 none wsX3_removePoint A) : CallW rX3_removePoint s args RX3 RX3 43 yX3_x cX3_x 3 (some .int) wsX3_x rX3_x 0 0 1 := cwV 1 C.2.2.2.2.2.1 gX3_removePoint_X3_x rfl rfl rfl (by decide +kernel) ⟨Nat.le_of_ble_eq_true rfl, Nat.le_of_ble_eq_true rfl⟩
theorem cw_X3_removePoint_X3_y_46 {p : Program} {s : State} {m : MethodId} {args : Array Value} {meth : Method} {c : Code} {g : kG} {A : Nat → Prop} (C : CT g p s m args meth c RX3 cX3_removePoint 3 none wsX3_removePoint A) : CallW rX3_removePoint s args RX3 RX3 46 yX3_y cX3_y 3 (some .int) wsX3_y rX3_y 0 0 1 := cwV 1 C.2.2.2.2.2.1 gX3_removePoint_X3_y rfl rfl rfl (by decide +kernel) ⟨Nat.le_of_ble_eq_true rfl, Nat.le_of_ble_eq_true rfl⟩
theorem cw_X3_removePoint_X3_width_49 {p : Program} {s : State} {m : MethodId} {args : Array Value} {meth : Method} {c : Code} {g : kG} {A : Nat → Prop} (C : CT g p s m args meth c RX3 cX3_removePoint 3 none wsX3_removePoint A) : CallW rX3_removePoint s args RX3 RX3 49 yX3_width cX3_width 3 (some .int) wsX3_width rX3_width 0 0 1 := cwV 1 C.2.2.2.2.2.1 gX3_removePoint_X3_width rfl rfl rfl (by decide +kernel) ⟨Nat.le_of_ble_eq_true rfl, Nat.le_of_ble_eq_true rfl⟩
theorem cw_X3_removePoint_X3_putPoint_36 {p : Program} {s : State} {m : MethodId} {args : Array Value} {meth : Method} {c : Code} {g : kG} {A : Nat → Prop} (C : CT g p s m args meth c RX3 cX3_removePoint 3 none wsX3_removePoint A) : CallW rX3_removePoint s args RX3 RX3 36 yX3_putPoint cX3_putPoint 6 none wsX3_putPoint rX3_putPoint 0 0 4 := cwV 4 C.2.2.2.2.2.1 gX3_removePoint_X3_putPoint rfl rfl rfl (by decide +kernel) ⟨Nat.le_of_ble_eq_true rfl, Nat.le_of_ble_eq_true rfl⟩
theorem cw_X3_removePoint_X3_keepAll_40 {p : Program} {s : State} {m : MethodId} {args : Array Value} {meth : Method} {c : Code} {g : kG} {A : Nat → Prop} (C : CT g p s m args meth c RX3 cX3_removePoint 3 none wsX3_removePoint A) : CallW rX3_removePoint s args RX3 RX3 40 yX3_keepAll cX3_keepAll 1 none wsX3_keepAll rX3_keepAll 0 0 0 := cwV 0 C.2.2.2.2.2.1 gX3_removePoint_X3_keepAll rfl rfl rfl (by decide +kernel) ⟨Nat.le_of_ble_eq_true rfl, Nat.le_of_ble_eq_true rfl⟩
noncomputable def bX3_removePoint_2 : Int32 × SS → Option ((Int32 × SS) ⊕ (SS))
  | (x1, u2) => if ((S_size u2) - 1) ≤ x1 then (some (.inr u2)) else ((fX3_x (x1 + 1) u2).bind fun r4 => (fX3_y (x1 + 1) u2).bind fun r5 => (fX3_width (x1 + 1) u2).bind fun r6 => (fX3_putPoint x1 r4 r5 r6 u2).bind fun u7 => some (.inl (x1 + 1, u7)))
noncomputable def lX3_removePoint_2 (x1 : Int32) (u2 : SS) : Option (SS) := lp bX3_removePoint_2 (x1, u2)
theorem lX3_removePoint_2_eq (x1 : Int32) (u2 : SS) : lX3_removePoint_2 x1 u2 = (if ((S_size u2) - 1) ≤ x1 then (some (.inr u2)) else ((fX3_x (x1 + 1) u2).bind fun r4 => (fX3_y (x1 + 1) u2).bind fun r5 => (fX3_width (x1 + 1) u2).bind fun r6 => (fX3_putPoint x1 r4 r5 r6 u2).bind fun u7 => some (.inl (x1 + 1, u7)))).bind fun r => Sum.elim (fun z => lX3_removePoint_2 z.1 z.2) (fun r => some r) r := lp_eq bX3_removePoint_2 (x1, u2)
set_option maxRecDepth 100000 in
set_option maxHeartbeats 4000000 in
theorem tX3_removePoint_2 {p : Program} {l : Launch} {e : Env} {s : State} {m : MethodId} {args : Array Value} {below : List Frame} {meth : Method} {c : Code} {g : kG} {A : Nat → Prop} {Q : State → Prop} (a : Nat → Nat) (C : CT g p s m args meth c RX3 cX3_removePoint 3 none wsX3_removePoint A) (u3 : SS) (kk : ∀ (H : Heap) (locs : List Loc) (ls : Array Slot), ST g A s H locs (wS g a u3) → lv_has ls 3 [(0, .ref (a 0))] → W p l e rX3_removePoint s m args below meth c H locs 0 0 Q (F0 m 44 ls [])) : ∀ (n : Nat) (x1 : Int32) (u2 : SS), whl bX3_removePoint_2 n (x1, u2) = some u3 → ∀ (H : Heap) (locs : List Loc) (ls : Array Slot), ST g A s H locs (wS g a u2) → lv_has ls 3 [(0, .ref (a 0)), (2, .int x1)] → W p l e rX3_removePoint s m args below meth c H locs 0 0 Q (F0 m 2 ls []) := by
  have hx := C.1
  have hb := C.2.1
  have hinX3 := in_X3_removePoint_X3
  have hf15 := C.2.2.2.2.2.1 _ fl_X3_removePoint_15
  intro n
  induction n with
  | zero =>
    intro x1 u2 hm
    cases hm
  | succ n ih =>
    intro x1 u2 hm H locs ls X hl
    rw [whl] at hm
    obtain ⟨q, hq, hm2⟩ := bnd hm
    clear hm
    have hm := hq
    clear hq
    rw [bX3_removePoint_2] at hm
    refine lv_iload_n hx hb dX3_removePoint_2 rfl (lv_at hl 1 rfl) ?_
    refine lv_aload_n hx hb dX3_removePoint_3 rfl (lv_at hl 0 rfl) ?_
    refine kget C X 0 (ci := 3) rfl rfl hinX3 1 (by decide) hf15 (v := .int (S_size u2)) rfl dX3_removePoint_4 ?_
    refine lv_iconst (v := 1) hx hb dX3_removePoint_7 (by decide) ?_
    refine lv_isub hx hb dX3_removePoint_8 ?_
    refine lv_icmp_ge (tgt := 44) hx hb dX3_removePoint_9 (by decide) (fun hc => ?_) (fun hc => ?_)
    · have hm := ifp hc hm
      cases sm hm
      cases sm hm2
      exact kk _ _ _ X (lv_sub hl [0] rfl)
    · have hm := ifn hc hm
      refine lv_aload_n hx hb dX3_removePoint_12 rfl (lv_at hl 0 rfl) ?_
      refine lv_iload_n hx hb dX3_removePoint_13 rfl (lv_at hl 1 rfl) ?_
      refine lv_aload_n hx hb dX3_removePoint_14 rfl (lv_at hl 0 rfl) ?_
      refine lv_iload_n hx hb dX3_removePoint_15 rfl (lv_at hl 1 rfl) ?_
      refine lv_iconst (v := 1) hx hb dX3_removePoint_16 (by decide) ?_
      refine lv_iadd hx hb dX3_removePoint_17 ?_
      obtain ⟨r4, hcl, hm⟩ := bnd hm
      refine kVW C X (kX3_x l g a (x1 + 1) u2 r4 hcl) (cw_X3_removePoint_X3_x_43 C) 0 (ci := 3) rfl rfl (As := [.int (x1 + 1)]) rfl hl (rest := [.int x1, .ref (a 0)]) rfl (Nat.le_of_ble_eq_true rfl) (st2 := [.int r4, .int x1, .ref (a 0)]) rfl dX3_removePoint_18 ⟨Nat.le_of_ble_eq_true rfl, Nat.le_of_ble_eq_true rfl⟩ (fun H locs X => ?_)
      clear hcl
      refine lv_aload_n hx hb dX3_removePoint_21 rfl (lv_at hl 0 rfl) ?_
      refine lv_iload_n hx hb dX3_removePoint_22 rfl (lv_at hl 1 rfl) ?_
      refine lv_iconst (v := 1) hx hb dX3_removePoint_23 (by decide) ?_
      refine lv_iadd hx hb dX3_removePoint_24 ?_
      obtain ⟨r5, hcl, hm⟩ := bnd hm
      refine kVW C X (kX3_y l g a (x1 + 1) u2 r5 hcl) (cw_X3_removePoint_X3_y_46 C) 0 (ci := 3) rfl rfl (As := [.int (x1 + 1)]) rfl hl (rest := [.int r4, .int x1, .ref (a 0)]) rfl (Nat.le_of_ble_eq_true rfl) (st2 := [.int r5, .int r4, .int x1, .ref (a 0)]) rfl dX3_removePoint_25 ⟨Nat.le_of_ble_eq_true rfl, Nat.le_of_ble_eq_true rfl⟩ (fun H locs X => ?_)
      clear hcl
      refine lv_aload_n hx hb dX3_removePoint_28 rfl (lv_at hl 0 rfl) ?_
      refine lv_iload_n hx hb dX3_removePoint_29 rfl (lv_at hl 1 rfl) ?_
      refine lv_iconst (v := 1) hx hb dX3_removePoint_30 (by decide) ?_
      refine lv_iadd hx hb dX3_removePoint_31 ?_
      obtain ⟨r6, hcl, hm⟩ := bnd hm
      refine kVW C X (kX3_width l g a (x1 + 1) u2 r6 hcl) (cw_X3_removePoint_X3_width_49 C) 0 (ci := 3) rfl rfl (As := [.int (x1 + 1)]) rfl hl (rest := [.int r5, .int r4, .int x1, .ref (a 0)]) rfl (Nat.le_of_ble_eq_true rfl) (st2 := [.int r6, .int r5, .int r4, .int x1, .ref (a 0)]) rfl dX3_removePoint_32 ⟨Nat.le_of_ble_eq_true rfl, Nat.le_of_ble_eq_true rfl⟩ (fun H locs X => ?_)
      clear hcl
      obtain ⟨u7, hcl, hm⟩ := bnd hm
      refine kVW C X (kX3_putPoint l g a x1 r4 r5 r6 u2 u7 hcl) (cw_X3_removePoint_X3_putPoint_36 C) 0 (ci := 3) rfl rfl (As := [.int x1, .int r4, .int r5, .int r6]) rfl hl (rest := []) rfl (Nat.le_of_ble_eq_true rfl) (st2 := []) rfl dX3_removePoint_35 ⟨Nat.le_of_ble_eq_true rfl, Nat.le_of_ble_eq_true rfl⟩ (fun H locs X => ?_)
      clear hcl
      refine lv_iinc (v := x1 + 1) (lv' := [(2, .int (x1 + 1)), (0, .ref (a 0))]) hx hb dX3_removePoint_38 hl (k := 1) rfl rfl (by decide) rfl (fun ls hl => ?_)
      refine lv_goto (tgt := 2) hx hb dX3_removePoint_41 (by decide) ?_
      cases sm hm
      exact ih _ _ hm2 _ _ _ X (lv_sub hl [1, 0] rfl)
noncomputable def fX3_removePoint (p1 : Int32) (u : SS) : Option (SS) := (lX3_removePoint_2 p1 u).bind fun u8 => lt (S_s_size u8 ((S_size u8) - 1)) fun u9 => (fX3_keepAll u9).bind fun u10 => some u10
set_option maxRecDepth 100000 in
set_option maxHeartbeats 4000000 in
theorem kX3_removePoint (l : Launch) (g : kG) (a : Nat → Nat) (p1 : Int32) (u : SS) (o1 : SS) (hm : fX3_removePoint p1 u = some o1) : KM l yX3_removePoint wsX3_removePoint rX3_removePoint g [.ref (a 0), .int p1] (wS g a u) none (wS g a o1) 0 0 := by
  refine KM.of (nL := 3) (by decide) rfl (Nat.le_of_ble_eq_true rfl) ?_
  intro p e s m args below meth c A ls C X hl
  have C : CT g p s m args meth c RX3 cX3_removePoint 3 none wsX3_removePoint A := C
  have hx := C.1
  have hb := C.2.1
  have hl : lv_has ls 3 [(0, .ref (a 0)), (1, .int p1)] := hl
  have hinX3 := in_X3_removePoint_X3
  have hf15 := C.2.2.2.2.2.1 _ fl_X3_removePoint_15
  rw [fX3_removePoint] at hm
  refine lv_iload_n hx hb dX3_removePoint_0 rfl (lv_at hl 1 rfl) ?_
  refine lv_istore_n (lv' := [(2, .int p1), (0, .ref (a 0)), (1, .int p1)]) hx hb dX3_removePoint_1 rfl hl (by decide) rfl (fun ls hl => ?_)
  obtain ⟨u8, hL, hm⟩ := bnd hm
  obtain ⟨nn, hn⟩ := lp_run hL
  refine tX3_removePoint_2 a C  u8 (fun H locs ls X hl => ?_) nn _ _ hn _ _ _ X (lv_sub hl [1, 0] rfl)
  clear hL hn
  refine lv_aload_n hx hb dX3_removePoint_44 rfl (lv_at hl 0 rfl) ?_
  refine lv_dup hx hb dX3_removePoint_45 rfl ?_
  refine kget C X 0 (ci := 3) rfl rfl hinX3 1 (by decide) hf15 (v := .int (S_size u8)) rfl dX3_removePoint_46 ?_
  refine lv_iconst (v := 1) hx hb dX3_removePoint_49 (by decide) ?_
  refine lv_isub hx hb dX3_removePoint_50 ?_
  obtain ⟨u9, eu⟩ : ∃ z, z = S_s_size u8 ((S_size u8) - 1) := ⟨_, rfl⟩
  have hm := lt_t eu hm
  refine kput C X 0 (ci := 3) rfl rfl hinX3 tyX3_ok nmX3 1 (by decide) hf15 rfl (ty := .int) (v := .int ((S_size u8) - 1)) rfl rfl rfl (Nat.le_of_ble_eq_true rfl) (w2 := wS g a u9) (by subst eu; rfl) dX3_removePoint_51 (fun H locs X => ?_)
  clear eu
  refine lv_aload_n hx hb dX3_removePoint_54 rfl (lv_at hl 0 rfl) ?_
  obtain ⟨u10, hcl, hm⟩ := bnd hm
  refine kVW C X (kX3_keepAll l g a u9 u10 hcl) (cw_X3_removePoint_X3_keepAll_40 C) 0 (ci := 3) rfl rfl (As := []) rfl hl (rest := []) rfl (Nat.le_of_ble_eq_true rfl) (st2 := []) rfl dX3_removePoint_55 ⟨Nat.le_of_ble_eq_true rfl, Nat.le_of_ble_eq_true rfl⟩ (fun H locs X => ?_)
  clear hcl
  cases sm hm
  exact kvret C X dX3_removePoint_58
-- X3 BrushStrokes$Stroke.removeUnkept()V
abbrev rX3_removeUnkept : Room := { frames := 2, cells := 0, slots := 0, locals := 42 }
theorem fl_X3_removeUnkept_15 : (Cond.fieldLink RX3 15 "BrushStrokes$Stroke" "size" "I") ∈ wsX3_removeUnkept := by decide +kernel
theorem in_X3_removeUnkept_X3 : ∀ w ∈ u_ws RX3 TX3 3, w ∈ wsX3_removeUnkept := by decide +kernel
theorem cw_X3_removeUnkept_X3_isKept_52 {p : Program} {s : State} {m : MethodId} {args : Array Value} {meth : Method} {c : Code} {g : kG} {A : Nat → Prop} (C : CT g p s m args meth c RX3 cX3_removeUnkept 3 none wsX3_removeUnkept A) : CallW rX3_removeUnkept s args RX3 RX3 52 yX3_isKept cX3_isKept 2 (some .boolean) wsX3_isKept rX3_isKept 0 0 1 := cwV 1 C.2.2.2.2.2.1 gX3_removeUnkept_X3_isKept rfl rfl rfl (by decide +kernel) ⟨Nat.le_of_ble_eq_true rfl, Nat.le_of_ble_eq_true rfl⟩
theorem cw_X3_removeUnkept_X3_x_43 {p : Program} {s : State} {m : MethodId} {args : Array Value} {meth : Method} {c : Code} {g : kG} {A : Nat → Prop} (C : CT g p s m args meth c RX3 cX3_removeUnkept 3 none wsX3_removeUnkept A) : CallW rX3_removeUnkept s args RX3 RX3 43 yX3_x cX3_x 3 (some .int) wsX3_x rX3_x 0 0 1 := cwV 1 C.2.2.2.2.2.1 gX3_removeUnkept_X3_x rfl rfl rfl (by decide +kernel) ⟨Nat.le_of_ble_eq_true rfl, Nat.le_of_ble_eq_true rfl⟩
theorem cw_X3_removeUnkept_X3_y_46 {p : Program} {s : State} {m : MethodId} {args : Array Value} {meth : Method} {c : Code} {g : kG} {A : Nat → Prop} (C : CT g p s m args meth c RX3 cX3_removeUnkept 3 none wsX3_removeUnkept A) : CallW rX3_removeUnkept s args RX3 RX3 46 yX3_y cX3_y 3 (some .int) wsX3_y rX3_y 0 0 1 := cwV 1 C.2.2.2.2.2.1 gX3_removeUnkept_X3_y rfl rfl rfl (by decide +kernel) ⟨Nat.le_of_ble_eq_true rfl, Nat.le_of_ble_eq_true rfl⟩
theorem cw_X3_removeUnkept_X3_width_49 {p : Program} {s : State} {m : MethodId} {args : Array Value} {meth : Method} {c : Code} {g : kG} {A : Nat → Prop} (C : CT g p s m args meth c RX3 cX3_removeUnkept 3 none wsX3_removeUnkept A) : CallW rX3_removeUnkept s args RX3 RX3 49 yX3_width cX3_width 3 (some .int) wsX3_width rX3_width 0 0 1 := cwV 1 C.2.2.2.2.2.1 gX3_removeUnkept_X3_width rfl rfl rfl (by decide +kernel) ⟨Nat.le_of_ble_eq_true rfl, Nat.le_of_ble_eq_true rfl⟩
theorem cw_X3_removeUnkept_X3_putPoint_36 {p : Program} {s : State} {m : MethodId} {args : Array Value} {meth : Method} {c : Code} {g : kG} {A : Nat → Prop} (C : CT g p s m args meth c RX3 cX3_removeUnkept 3 none wsX3_removeUnkept A) : CallW rX3_removeUnkept s args RX3 RX3 36 yX3_putPoint cX3_putPoint 6 none wsX3_putPoint rX3_putPoint 0 0 4 := cwV 4 C.2.2.2.2.2.1 gX3_removeUnkept_X3_putPoint rfl rfl rfl (by decide +kernel) ⟨Nat.le_of_ble_eq_true rfl, Nat.le_of_ble_eq_true rfl⟩
theorem cw_X3_removeUnkept_X3_keepAll_40 {p : Program} {s : State} {m : MethodId} {args : Array Value} {meth : Method} {c : Code} {g : kG} {A : Nat → Prop} (C : CT g p s m args meth c RX3 cX3_removeUnkept 3 none wsX3_removeUnkept A) : CallW rX3_removeUnkept s args RX3 RX3 40 yX3_keepAll cX3_keepAll 1 none wsX3_keepAll rX3_keepAll 0 0 0 := cwV 0 C.2.2.2.2.2.1 gX3_removeUnkept_X3_keepAll rfl rfl rfl (by decide +kernel) ⟨Nat.le_of_ble_eq_true rfl, Nat.le_of_ble_eq_true rfl⟩
noncomputable def bX3_removeUnkept_4 : Int32 × Int32 × SS → Option ((Int32 × Int32 × SS) ⊕ (Int32 × SS))
  | (x1, x2, u3) => if (S_size u3) ≤ x2 then (some (.inr (x1, u3))) else ((fX3_isKept x2 u3).bind fun r6 => ((if r6 = 0 then (some (x1, u3)) else ((fX3_x x2 u3).bind fun r13 => (fX3_y x2 u3).bind fun r14 => (fX3_width x2 u3).bind fun r15 => (fX3_putPoint x1 r13 r14 r15 u3).bind fun u16 => some (x1 + 1, u16))) : Option (Int32 × SS)).bind fun (v11, u12) => some (.inl (v11, x2 + 1, u12)))
noncomputable def lX3_removeUnkept_4 (x1 : Int32) (x2 : Int32) (u3 : SS) : Option (Int32 × SS) := lp bX3_removeUnkept_4 (x1, x2, u3)
theorem lX3_removeUnkept_4_eq (x1 : Int32) (x2 : Int32) (u3 : SS) : lX3_removeUnkept_4 x1 x2 u3 = (if (S_size u3) ≤ x2 then (some (.inr (x1, u3))) else ((fX3_isKept x2 u3).bind fun r6 => ((if r6 = 0 then (some (x1, u3)) else ((fX3_x x2 u3).bind fun r13 => (fX3_y x2 u3).bind fun r14 => (fX3_width x2 u3).bind fun r15 => (fX3_putPoint x1 r13 r14 r15 u3).bind fun u16 => some (x1 + 1, u16))) : Option (Int32 × SS)).bind fun (v11, u12) => some (.inl (v11, x2 + 1, u12)))).bind fun r => Sum.elim (fun z => lX3_removeUnkept_4 z.1 z.2.1 z.2.2) (fun r => some r) r := lp_eq bX3_removeUnkept_4 (x1, x2, u3)
set_option maxRecDepth 100000 in
set_option maxHeartbeats 4000000 in
theorem tX3_removeUnkept_4 {p : Program} {l : Launch} {e : Env} {s : State} {m : MethodId} {args : Array Value} {below : List Frame} {meth : Method} {c : Code} {g : kG} {A : Nat → Prop} {Q : State → Prop} (a : Nat → Nat) (C : CT g p s m args meth c RX3 cX3_removeUnkept 3 none wsX3_removeUnkept A) (y4 : Int32) (u5 : SS) (kk : ∀ (H : Heap) (locs : List Loc) (ls : Array Slot), ST g A s H locs (wS g a u5) → lv_has ls 3 [(0, .ref (a 0)), (1, .int y4)] → W p l e rX3_removeUnkept s m args below meth c H locs 0 0 Q (F0 m 49 ls [])) : ∀ (n : Nat) (x1 : Int32) (x2 : Int32) (u3 : SS), whl bX3_removeUnkept_4 n (x1, x2, u3) = some (y4, u5) → ∀ (H : Heap) (locs : List Loc) (ls : Array Slot), ST g A s H locs (wS g a u3) → lv_has ls 3 [(0, .ref (a 0)), (1, .int x1), (2, .int x2)] → W p l e rX3_removeUnkept s m args below meth c H locs 0 0 Q (F0 m 4 ls []) := by
  have hx := C.1
  have hb := C.2.1
  have hinX3 := in_X3_removeUnkept_X3
  have hf15 := C.2.2.2.2.2.1 _ fl_X3_removeUnkept_15
  intro n
  induction n with
  | zero =>
    intro x1 x2 u3 hm
    cases hm
  | succ n ih =>
    intro x1 x2 u3 hm H locs ls X hl
    rw [whl] at hm
    obtain ⟨q, hq, hm2⟩ := bnd hm
    clear hm
    have hm := hq
    clear hq
    rw [bX3_removeUnkept_4] at hm
    refine lv_iload_n hx hb dX3_removeUnkept_4 rfl (lv_at hl 2 rfl) ?_
    refine lv_aload_n hx hb dX3_removeUnkept_5 rfl (lv_at hl 0 rfl) ?_
    refine kget C X 0 (ci := 3) rfl rfl hinX3 1 (by decide) hf15 (v := .int (S_size u3)) rfl dX3_removeUnkept_6 ?_
    refine lv_icmp_ge (tgt := 49) hx hb dX3_removeUnkept_9 (by decide) (fun hc => ?_) (fun hc => ?_)
    · have hm := ifp hc hm
      cases sm hm
      cases sm hm2
      exact kk _ _ _ X (lv_sub hl [0, 1] rfl)
    · have hm := ifn hc hm
      refine lv_aload_n hx hb dX3_removeUnkept_12 rfl (lv_at hl 0 rfl) ?_
      refine lv_iload_n hx hb dX3_removeUnkept_13 rfl (lv_at hl 2 rfl) ?_
      obtain ⟨r6, hcl, hm⟩ := bnd hm
      refine kVW C X (kX3_isKept l g a x2 u3 r6 hcl) (cw_X3_removeUnkept_X3_isKept_52 C) 0 (ci := 3) rfl rfl (As := [.int x2]) rfl hl (rest := []) rfl (Nat.le_of_ble_eq_true rfl) (st2 := [.int r6]) rfl dX3_removeUnkept_14 ⟨Nat.le_of_ble_eq_true rfl, Nat.le_of_ble_eq_true rfl⟩ (fun H locs X => ?_)
      clear hcl
      obtain ⟨⟨v11, u12⟩, hE, hm⟩ := bnd hm
      have K : ∀ (H : Heap) (locs : List Loc) (ls : Array Slot), ST g A s H locs (wS g a u12) → lv_has ls 3 [(0, .ref (a 0)), (1, .int v11), (2, .int x2)] → W p l e rX3_removeUnkept s m args below meth c H locs 0 0 Q (F0 m 43 ls []) := by
        intro H locs ls X hl
        clear hE
        refine lv_iinc (v := x2 + 1) (lv' := [(2, .int (x2 + 1)), (0, .ref (a 0)), (1, .int v11)]) hx hb dX3_removeUnkept_43 hl (k := 2) rfl rfl (by decide) rfl (fun ls hl => ?_)
        refine lv_goto (tgt := 4) hx hb dX3_removeUnkept_46 (by decide) ?_
        cases sm hm
        exact ih _ _ _ hm2 _ _ _ X (lv_sub hl [1, 2, 0] rfl)
      clear hm
      have hm := hE
      clear hE
      refine lv_if_eq (tgt := 43) hx hb dX3_removeUnkept_17 (by decide) (fun hc => ?_) (fun hc => ?_)
      · have hm := ifp hc hm
        cases sm hm
        exact K _ _ _ X (lv_sub hl [0, 1, 2] rfl)
      · have hm := ifn hc hm
        refine lv_aload_n hx hb dX3_removeUnkept_20 rfl (lv_at hl 0 rfl) ?_
        refine lv_iload_n hx hb dX3_removeUnkept_21 rfl (lv_at hl 1 rfl) ?_
        refine lv_aload_n hx hb dX3_removeUnkept_22 rfl (lv_at hl 0 rfl) ?_
        refine lv_iload_n hx hb dX3_removeUnkept_23 rfl (lv_at hl 2 rfl) ?_
        obtain ⟨r13, hcl, hm⟩ := bnd hm
        refine kVW C X (kX3_x l g a x2 u3 r13 hcl) (cw_X3_removeUnkept_X3_x_43 C) 0 (ci := 3) rfl rfl (As := [.int x2]) rfl hl (rest := [.int x1, .ref (a 0)]) rfl (Nat.le_of_ble_eq_true rfl) (st2 := [.int r13, .int x1, .ref (a 0)]) rfl dX3_removeUnkept_24 ⟨Nat.le_of_ble_eq_true rfl, Nat.le_of_ble_eq_true rfl⟩ (fun H locs X => ?_)
        clear hcl
        refine lv_aload_n hx hb dX3_removeUnkept_27 rfl (lv_at hl 0 rfl) ?_
        refine lv_iload_n hx hb dX3_removeUnkept_28 rfl (lv_at hl 2 rfl) ?_
        obtain ⟨r14, hcl, hm⟩ := bnd hm
        refine kVW C X (kX3_y l g a x2 u3 r14 hcl) (cw_X3_removeUnkept_X3_y_46 C) 0 (ci := 3) rfl rfl (As := [.int x2]) rfl hl (rest := [.int r13, .int x1, .ref (a 0)]) rfl (Nat.le_of_ble_eq_true rfl) (st2 := [.int r14, .int r13, .int x1, .ref (a 0)]) rfl dX3_removeUnkept_29 ⟨Nat.le_of_ble_eq_true rfl, Nat.le_of_ble_eq_true rfl⟩ (fun H locs X => ?_)
        clear hcl
        refine lv_aload_n hx hb dX3_removeUnkept_32 rfl (lv_at hl 0 rfl) ?_
        refine lv_iload_n hx hb dX3_removeUnkept_33 rfl (lv_at hl 2 rfl) ?_
        obtain ⟨r15, hcl, hm⟩ := bnd hm
        refine kVW C X (kX3_width l g a x2 u3 r15 hcl) (cw_X3_removeUnkept_X3_width_49 C) 0 (ci := 3) rfl rfl (As := [.int x2]) rfl hl (rest := [.int r14, .int r13, .int x1, .ref (a 0)]) rfl (Nat.le_of_ble_eq_true rfl) (st2 := [.int r15, .int r14, .int r13, .int x1, .ref (a 0)]) rfl dX3_removeUnkept_34 ⟨Nat.le_of_ble_eq_true rfl, Nat.le_of_ble_eq_true rfl⟩ (fun H locs X => ?_)
        clear hcl
        obtain ⟨u16, hcl, hm⟩ := bnd hm
        refine kVW C X (kX3_putPoint l g a x1 r13 r14 r15 u3 u16 hcl) (cw_X3_removeUnkept_X3_putPoint_36 C) 0 (ci := 3) rfl rfl (As := [.int x1, .int r13, .int r14, .int r15]) rfl hl (rest := []) rfl (Nat.le_of_ble_eq_true rfl) (st2 := []) rfl dX3_removeUnkept_37 ⟨Nat.le_of_ble_eq_true rfl, Nat.le_of_ble_eq_true rfl⟩ (fun H locs X => ?_)
        clear hcl
        refine lv_iinc (v := x1 + 1) (lv' := [(1, .int (x1 + 1)), (0, .ref (a 0)), (2, .int x2)]) hx hb dX3_removeUnkept_40 hl (k := 1) rfl rfl (by decide) rfl (fun ls hl => ?_)
        cases sm hm
        exact K _ _ _ X (lv_sub hl [1, 0, 2] rfl)
noncomputable def fX3_removeUnkept (u : SS) : Option (SS) := (lX3_removeUnkept_4 0 0 u).bind fun (y17, u18) => lt (S_s_size u18 y17) fun u19 => (fX3_keepAll u19).bind fun u20 => some u20
set_option maxRecDepth 100000 in
set_option maxHeartbeats 4000000 in
theorem kX3_removeUnkept (l : Launch) (g : kG) (a : Nat → Nat) (u : SS) (o1 : SS) (hm : fX3_removeUnkept u = some o1) : KM l yX3_removeUnkept wsX3_removeUnkept rX3_removeUnkept g [.ref (a 0)] (wS g a u) none (wS g a o1) 0 0 := by
  refine KM.of (nL := 3) (by decide) rfl (Nat.le_of_ble_eq_true rfl) ?_
  intro p e s m args below meth c A ls C X hl
  have C : CT g p s m args meth c RX3 cX3_removeUnkept 3 none wsX3_removeUnkept A := C
  have hx := C.1
  have hb := C.2.1
  have hl : lv_has ls 3 [(0, .ref (a 0))] := hl
  have hinX3 := in_X3_removeUnkept_X3
  have hf15 := C.2.2.2.2.2.1 _ fl_X3_removeUnkept_15
  rw [fX3_removeUnkept] at hm
  refine lv_iconst (v := 0) hx hb dX3_removeUnkept_0 (by decide) ?_
  refine lv_istore_n (lv' := [(1, .int 0), (0, .ref (a 0))]) hx hb dX3_removeUnkept_1 rfl hl (by decide) rfl (fun ls hl => ?_)
  refine lv_iconst (v := 0) hx hb dX3_removeUnkept_2 (by decide) ?_
  refine lv_istore_n (lv' := [(2, .int 0), (1, .int 0), (0, .ref (a 0))]) hx hb dX3_removeUnkept_3 rfl hl (by decide) rfl (fun ls hl => ?_)
  obtain ⟨⟨y17, u18⟩, hL, hm⟩ := bnd hm
  obtain ⟨nn, hn⟩ := lp_run hL
  refine tX3_removeUnkept_4 a C  y17 u18 (fun H locs ls X hl => ?_) nn _ _ _ hn _ _ _ X (lv_sub hl [2, 1, 0] rfl)
  clear hL hn
  refine lv_aload_n hx hb dX3_removeUnkept_49 rfl (lv_at hl 0 rfl) ?_
  refine lv_iload_n hx hb dX3_removeUnkept_50 rfl (lv_at hl 1 rfl) ?_
  obtain ⟨u19, eu⟩ : ∃ z, z = S_s_size u18 y17 := ⟨_, rfl⟩
  have hm := lt_t eu hm
  refine kput C X 0 (ci := 3) rfl rfl hinX3 tyX3_ok nmX3 1 (by decide) hf15 rfl (ty := .int) (v := .int y17) rfl rfl rfl (Nat.le_of_ble_eq_true rfl) (w2 := wS g a u19) (by subst eu; rfl) dX3_removeUnkept_51 (fun H locs X => ?_)
  clear eu
  refine lv_aload_n hx hb dX3_removeUnkept_54 rfl (lv_at hl 0 rfl) ?_
  obtain ⟨u20, hcl, hm⟩ := bnd hm
  refine kVW C X (kX3_keepAll l g a u19 u20 hcl) (cw_X3_removeUnkept_X3_keepAll_40 C) 0 (ci := 3) rfl rfl (As := []) rfl hl (rest := []) rfl (Nat.le_of_ble_eq_true rfl) (st2 := []) rfl dX3_removeUnkept_55 ⟨Nat.le_of_ble_eq_true rfl, Nat.le_of_ble_eq_true rfl⟩ (fun H locs X => ?_)
  clear hcl
  cases sm hm
  exact kvret C X dX3_removeUnkept_58
-- X3 BrushStrokes$Stroke.keptBefore(I)I
abbrev rX3_keptBefore : Room := { frames := 2, cells := 0, slots := 0, locals := 42 }
theorem cw_X3_keptBefore_X3_isKept_52 {p : Program} {s : State} {m : MethodId} {args : Array Value} {meth : Method} {c : Code} {g : kG} {A : Nat → Prop} (C : CT g p s m args meth c RX3 cX3_keptBefore 3 (some .int) wsX3_keptBefore A) : CallW rX3_keptBefore s args RX3 RX3 52 yX3_isKept cX3_isKept 2 (some .boolean) wsX3_isKept rX3_isKept 0 0 1 := cwV 1 C.2.2.2.2.2.1 gX3_keptBefore_X3_isKept rfl rfl rfl (by decide +kernel) ⟨Nat.le_of_ble_eq_true rfl, Nat.le_of_ble_eq_true rfl⟩
noncomputable def bX3_keptBefore_4 (w2 : SS) (x1 : Int32) : Option ((Int32) ⊕ (Int32)) := if x1 ≤ 0 then (some (.inr 0)) else ((fX3_isKept x1 w2).bind fun r3 => if r3 = 0 then (some (.inl (x1 + (-1)))) else (some (.inr x1)))
noncomputable def lX3_keptBefore_4 (w2 : SS) (x1 : Int32) : Option (Int32) := lp (bX3_keptBefore_4 w2) x1
theorem lX3_keptBefore_4_eq (w2 : SS) (x1 : Int32) : lX3_keptBefore_4 w2 x1 = (if x1 ≤ 0 then (some (.inr 0)) else ((fX3_isKept x1 w2).bind fun r3 => if r3 = 0 then (some (.inl (x1 + (-1)))) else (some (.inr x1)))).bind fun r => Sum.elim (fun z => lX3_keptBefore_4 w2 z) (fun r => some r) r := lp_eq (bX3_keptBefore_4 w2) x1
set_option maxRecDepth 100000 in
set_option maxHeartbeats 4000000 in
theorem tX3_keptBefore_4 {p : Program} {l : Launch} {e : Env} {s : State} {m : MethodId} {args : Array Value} {below : List Frame} {meth : Method} {c : Code} {g : kG} {A : Nat → Prop} (a : Nat → Nat) (C : CT g p s m args meth c RX3 cX3_keptBefore 3 (some .int) wsX3_keptBefore A) (w2 : SS) (o1 : Int32) : ∀ (n : Nat) (x1 : Int32), whl (bX3_keptBefore_4 w2) n x1 = some o1 → ∀ (H : Heap) (locs : List Loc) (ls : Array Slot), ST g A s H locs (wS g a w2) → lv_has ls 3 [(0, .ref (a 0)), (2, .int x1)] → W p l e rX3_keptBefore s m args below meth c H locs 0 0 (kEnd g below args s (some (.int o1)) (wS g a w2) A 0 0) (F0 m 4 ls []) := by
  have hx := C.1
  have hb := C.2.1
  intro n
  induction n with
  | zero =>
    intro x1 hm
    cases hm
  | succ n ih =>
    intro x1 hm H locs ls X hl
    rw [whl] at hm
    obtain ⟨q, hq, hm2⟩ := bnd hm
    clear hm
    have hm := hq
    clear hq
    rw [bX3_keptBefore_4] at hm
    refine lv_iload_n hx hb dX3_keptBefore_4 rfl (lv_at hl 1 rfl) ?_
    refine lv_if_le (tgt := 24) hx hb dX3_keptBefore_5 (by decide) (fun hc => ?_) (fun hc => ?_)
    · have hm := ifp hc hm
      refine lv_iconst (v := 0) hx hb dX3_keptBefore_24 (by decide) ?_
      cases sm hm
      cases sm hm2
      exact kiret C X dX3_keptBefore_25
    · have hm := ifn hc hm
      refine lv_aload_n hx hb dX3_keptBefore_8 rfl (lv_at hl 0 rfl) ?_
      refine lv_iload_n hx hb dX3_keptBefore_9 rfl (lv_at hl 1 rfl) ?_
      obtain ⟨r3, hcl, hm⟩ := bnd hm
      refine kVW C X (kX3_isKept l g a x1 w2 r3 hcl) (cw_X3_keptBefore_X3_isKept_52 C) 0 (ci := 3) rfl rfl (As := [.int x1]) rfl hl (rest := []) rfl (Nat.le_of_ble_eq_true rfl) (st2 := [.int r3]) rfl dX3_keptBefore_10 ⟨Nat.le_of_ble_eq_true rfl, Nat.le_of_ble_eq_true rfl⟩ (fun H locs X => ?_)
      clear hcl
      refine lv_if_eq (tgt := 18) hx hb dX3_keptBefore_13 (by decide) (fun hc => ?_) (fun hc => ?_)
      · have hm := ifp hc hm
        refine lv_iinc (v := x1 + (-1)) (lv' := [(2, .int (x1 + (-1))), (0, .ref (a 0))]) hx hb dX3_keptBefore_18 hl (k := 1) rfl rfl (by decide) rfl (fun ls hl => ?_)
        refine lv_goto (tgt := 4) hx hb dX3_keptBefore_21 (by decide) ?_
        cases sm hm
        exact ih _ hm2 _ _ _ X (lv_sub hl [1, 0] rfl)
      · have hm := ifn hc hm
        refine lv_iload_n hx hb dX3_keptBefore_16 rfl (lv_at hl 1 rfl) ?_
        cases sm hm
        cases sm hm2
        exact kiret C X dX3_keptBefore_17
noncomputable def fX3_keptBefore (p1 : Int32) (u : SS) : Option (Int32) := lX3_keptBefore_4 u (p1 - 1)
set_option maxRecDepth 100000 in
set_option maxHeartbeats 4000000 in
theorem kX3_keptBefore (l : Launch) (g : kG) (a : Nat → Nat) (p1 : Int32) (u : SS) (o1 : Int32) (hm : fX3_keptBefore p1 u = some o1) : KM l yX3_keptBefore wsX3_keptBefore rX3_keptBefore g [.ref (a 0), .int p1] (wS g a u) (some (.int o1)) (wS g a u) 0 0 := by
  refine KM.of (nL := 3) (by decide) rfl (Nat.le_of_ble_eq_true rfl) ?_
  intro p e s m args below meth c A ls C X hl
  have C : CT g p s m args meth c RX3 cX3_keptBefore 3 (some .int) wsX3_keptBefore A := C
  have hx := C.1
  have hb := C.2.1
  have hl : lv_has ls 3 [(0, .ref (a 0)), (1, .int p1)] := hl
  rw [fX3_keptBefore] at hm
  refine lv_iload_n hx hb dX3_keptBefore_0 rfl (lv_at hl 1 rfl) ?_
  refine lv_iconst (v := 1) hx hb dX3_keptBefore_1 (by decide) ?_
  refine lv_isub hx hb dX3_keptBefore_2 ?_
  refine lv_istore_n (lv' := [(2, .int (p1 - 1)), (0, .ref (a 0)), (1, .int p1)]) hx hb dX3_keptBefore_3 rfl hl (by decide) rfl (fun ls hl => ?_)
  obtain ⟨nn, hn⟩ := lp_run hm
  exact tX3_keptBefore_4 a C u _ nn _ hn _ _ _ X (lv_sub hl [1, 0] rfl)
-- X3 BrushStrokes$Stroke.keptBehind(I)I
abbrev rX3_keptBehind : Room := { frames := 2, cells := 0, slots := 0, locals := 42 }
theorem fl_X3_keptBehind_15 : (Cond.fieldLink RX3 15 "BrushStrokes$Stroke" "size" "I") ∈ wsX3_keptBehind := by decide +kernel
theorem in_X3_keptBehind_X3 : ∀ w ∈ u_ws RX3 TX3 3, w ∈ wsX3_keptBehind := by decide +kernel
theorem cw_X3_keptBehind_X3_isKept_52 {p : Program} {s : State} {m : MethodId} {args : Array Value} {meth : Method} {c : Code} {g : kG} {A : Nat → Prop} (C : CT g p s m args meth c RX3 cX3_keptBehind 3 (some .int) wsX3_keptBehind A) : CallW rX3_keptBehind s args RX3 RX3 52 yX3_isKept cX3_isKept 2 (some .boolean) wsX3_isKept rX3_isKept 0 0 1 := cwV 1 C.2.2.2.2.2.1 gX3_keptBehind_X3_isKept rfl rfl rfl (by decide +kernel) ⟨Nat.le_of_ble_eq_true rfl, Nat.le_of_ble_eq_true rfl⟩
noncomputable def bX3_keptBehind_4 (w2 : SS) (x1 : Int32) : Option ((Int32) ⊕ (Int32)) := if (S_size w2) ≤ x1 then (some (.inr ((S_size w2) - 1))) else ((fX3_isKept x1 w2).bind fun r3 => if r3 = 0 then (some (.inl (x1 + 1))) else (some (.inr x1)))
noncomputable def lX3_keptBehind_4 (w2 : SS) (x1 : Int32) : Option (Int32) := lp (bX3_keptBehind_4 w2) x1
theorem lX3_keptBehind_4_eq (w2 : SS) (x1 : Int32) : lX3_keptBehind_4 w2 x1 = (if (S_size w2) ≤ x1 then (some (.inr ((S_size w2) - 1))) else ((fX3_isKept x1 w2).bind fun r3 => if r3 = 0 then (some (.inl (x1 + 1))) else (some (.inr x1)))).bind fun r => Sum.elim (fun z => lX3_keptBehind_4 w2 z) (fun r => some r) r := lp_eq (bX3_keptBehind_4 w2) x1
set_option maxRecDepth 100000 in
set_option maxHeartbeats 4000000 in
theorem tX3_keptBehind_4 {p : Program} {l : Launch} {e : Env} {s : State} {m : MethodId} {args : Array Value} {below : List Frame} {meth : Method} {c : Code} {g : kG} {A : Nat → Prop} (a : Nat → Nat) (C : CT g p s m args meth c RX3 cX3_keptBehind 3 (some .int) wsX3_keptBehind A) (w2 : SS) (o1 : Int32) : ∀ (n : Nat) (x1 : Int32), whl (bX3_keptBehind_4 w2) n x1 = some o1 → ∀ (H : Heap) (locs : List Loc) (ls : Array Slot), ST g A s H locs (wS g a w2) → lv_has ls 3 [(0, .ref (a 0)), (2, .int x1)] → W p l e rX3_keptBehind s m args below meth c H locs 0 0 (kEnd g below args s (some (.int o1)) (wS g a w2) A 0 0) (F0 m 4 ls []) := by
  have hx := C.1
  have hb := C.2.1
  have hinX3 := in_X3_keptBehind_X3
  have hf15 := C.2.2.2.2.2.1 _ fl_X3_keptBehind_15
  intro n
  induction n with
  | zero =>
    intro x1 hm
    cases hm
  | succ n ih =>
    intro x1 hm H locs ls X hl
    rw [whl] at hm
    obtain ⟨q, hq, hm2⟩ := bnd hm
    clear hm
    have hm := hq
    clear hq
    rw [bX3_keptBehind_4] at hm
    refine lv_iload_n hx hb dX3_keptBehind_4 rfl (lv_at hl 1 rfl) ?_
    refine lv_aload_n hx hb dX3_keptBehind_5 rfl (lv_at hl 0 rfl) ?_
    refine kget C X 0 (ci := 3) rfl rfl hinX3 1 (by decide) hf15 (v := .int (S_size w2)) rfl dX3_keptBehind_6 ?_
    refine lv_icmp_ge (tgt := 28) hx hb dX3_keptBehind_9 (by decide) (fun hc => ?_) (fun hc => ?_)
    · have hm := ifp hc hm
      refine lv_aload_n hx hb dX3_keptBehind_28 rfl (lv_at hl 0 rfl) ?_
      refine kget C X 0 (ci := 3) rfl rfl hinX3 1 (by decide) hf15 (v := .int (S_size w2)) rfl dX3_keptBehind_29 ?_
      refine lv_iconst (v := 1) hx hb dX3_keptBehind_32 (by decide) ?_
      refine lv_isub hx hb dX3_keptBehind_33 ?_
      cases sm hm
      cases sm hm2
      exact kiret C X dX3_keptBehind_34
    · have hm := ifn hc hm
      refine lv_aload_n hx hb dX3_keptBehind_12 rfl (lv_at hl 0 rfl) ?_
      refine lv_iload_n hx hb dX3_keptBehind_13 rfl (lv_at hl 1 rfl) ?_
      obtain ⟨r3, hcl, hm⟩ := bnd hm
      refine kVW C X (kX3_isKept l g a x1 w2 r3 hcl) (cw_X3_keptBehind_X3_isKept_52 C) 0 (ci := 3) rfl rfl (As := [.int x1]) rfl hl (rest := []) rfl (Nat.le_of_ble_eq_true rfl) (st2 := [.int r3]) rfl dX3_keptBehind_14 ⟨Nat.le_of_ble_eq_true rfl, Nat.le_of_ble_eq_true rfl⟩ (fun H locs X => ?_)
      clear hcl
      refine lv_if_eq (tgt := 22) hx hb dX3_keptBehind_17 (by decide) (fun hc => ?_) (fun hc => ?_)
      · have hm := ifp hc hm
        refine lv_iinc (v := x1 + 1) (lv' := [(2, .int (x1 + 1)), (0, .ref (a 0))]) hx hb dX3_keptBehind_22 hl (k := 1) rfl rfl (by decide) rfl (fun ls hl => ?_)
        refine lv_goto (tgt := 4) hx hb dX3_keptBehind_25 (by decide) ?_
        cases sm hm
        exact ih _ hm2 _ _ _ X (lv_sub hl [1, 0] rfl)
      · have hm := ifn hc hm
        refine lv_iload_n hx hb dX3_keptBehind_20 rfl (lv_at hl 1 rfl) ?_
        cases sm hm
        cases sm hm2
        exact kiret C X dX3_keptBehind_21
noncomputable def fX3_keptBehind (p1 : Int32) (u : SS) : Option (Int32) := lX3_keptBehind_4 u (p1 + 1)
set_option maxRecDepth 100000 in
set_option maxHeartbeats 4000000 in
theorem kX3_keptBehind (l : Launch) (g : kG) (a : Nat → Nat) (p1 : Int32) (u : SS) (o1 : Int32) (hm : fX3_keptBehind p1 u = some o1) : KM l yX3_keptBehind wsX3_keptBehind rX3_keptBehind g [.ref (a 0), .int p1] (wS g a u) (some (.int o1)) (wS g a u) 0 0 := by
  refine KM.of (nL := 3) (by decide) rfl (Nat.le_of_ble_eq_true rfl) ?_
  intro p e s m args below meth c A ls C X hl
  have C : CT g p s m args meth c RX3 cX3_keptBehind 3 (some .int) wsX3_keptBehind A := C
  have hx := C.1
  have hb := C.2.1
  have hl : lv_has ls 3 [(0, .ref (a 0)), (1, .int p1)] := hl
  rw [fX3_keptBehind] at hm
  refine lv_iload_n hx hb dX3_keptBehind_0 rfl (lv_at hl 1 rfl) ?_
  refine lv_iconst (v := 1) hx hb dX3_keptBehind_1 (by decide) ?_
  refine lv_iadd hx hb dX3_keptBehind_2 ?_
  refine lv_istore_n (lv' := [(2, .int (p1 + 1)), (0, .ref (a 0)), (1, .int p1)]) hx hb dX3_keptBehind_3 rfl hl (by decide) rfl (fun ls hl => ?_)
  obtain ⟨nn, hn⟩ := lp_run hm
  exact tX3_keptBehind_4 a C u _ nn _ hn _ _ _ X (lv_sub hl [1, 0] rfl)
