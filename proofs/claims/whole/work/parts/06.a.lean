-- X6 BrushStrokesModel.thrown()I
abbrev rX6_thrown : Room := { frames := 0, cells := 0, slots := 0, locals := 0 }
theorem fl_X6_thrown_35 : (Cond.fieldLink RX6 35 "BrushStrokesModel" "thrown" "I") ∈ wsX6_thrown := by decide +kernel
theorem in_X6_thrown_X6 : ∀ w ∈ u_ws RX6 TX6 16, w ∈ wsX6_thrown := by decide +kernel
noncomputable def fX6_thrown (u : MS) : Option (Int32) := some (M_thrown u)
set_option maxRecDepth 100000 in
set_option maxHeartbeats 4000000 in
theorem kX6_thrown (l : Launch) (g : kG) (a : Nat → Nat) (u : MS) (o1 : Int32) (hm : fX6_thrown u = some o1) : KM l yX6_thrown wsX6_thrown rX6_thrown g [.ref (a 0)] (wM g a u) (some (.int o1)) (wM g a u) 0 0 := by
  refine KM.of (nL := 1) (by decide) rfl (Nat.le_of_ble_eq_true rfl) ?_
  intro p e s m args below meth c A ls C X hl
  have C : CT g p s m args meth c RX6 cX6_thrown 1 (some .int) wsX6_thrown A := C
  have hx := C.1
  have hb := C.2.1
  have hl : lv_has ls 1 [(0, .ref (a 0))] := hl
  have hinX6 := in_X6_thrown_X6
  have hf35 := C.2.2.2.2.2.1 _ fl_X6_thrown_35
  rw [fX6_thrown] at hm
  refine lv_aload_n hx hb dX6_thrown_0 rfl (lv_at hl 0 rfl) ?_
  refine kget C X 0 (ci := 6) rfl rfl hinX6 0 (by decide) hf35 (v := .int (M_thrown u)) rfl dX6_thrown_1 ?_
  cases sm hm
  exact kiret C X dX6_thrown_4
-- X6 BrushStrokesModel.in(III)Z
abbrev rX6_in : Room := { frames := 0, cells := 0, slots := 0, locals := 0 }
noncomputable def fX6_in (p1 : Int32) (p2 : Int32) (p3 : Int32) : Option (Int32) := ((if p1 < p2 then (some 0) else (if p3 < p1 then (some 0) else (some 1))) : Option (Int32)).bind fun v1 => gd (isb v1) (some v1)
set_option maxRecDepth 100000 in
set_option maxHeartbeats 4000000 in
theorem kX6_in (l : Launch) (g : kG) (p1 : Int32) (p2 : Int32) (p3 : Int32) (o1 : Int32) (hm : fX6_in p1 p2 p3 = some o1) : KM l yX6_in wsX6_in rX6_in g [.int p1, .int p2, .int p3] ([]) (some (.int o1)) ([]) 0 0 := by
  refine KM.of (nL := 3) (by decide) rfl (Nat.le_of_ble_eq_true rfl) ?_
  intro p e s m args below meth c A ls C X hl
  have C : CT g p s m args meth c RX6 cX6_in 3 (some .boolean) wsX6_in A := C
  have hx := C.1
  have hb := C.2.1
  have hl : lv_has ls 3 [(0, .int p1), (1, .int p2), (2, .int p3)] := hl
  rw [fX6_in] at hm
  refine lv_iload_n hx hb dX6_in_0 rfl (lv_at hl 0 rfl) ?_
  refine lv_iload_n hx hb dX6_in_1 rfl (lv_at hl 1 rfl) ?_
  obtain ⟨v1, hE, hm⟩ := bnd hm
  have K : ∀ (H : Heap) (locs : List Loc) (ls : Array Slot), ST g A s H locs ([]) → lv_has ls 3 [] → W p l e rX6_in s m args below meth c H locs 0 0 (kEnd g below args s (some (.int o1)) ([]) A 0 0) (F0 m 15 ls [.int v1]) := by
    intro H locs ls X hl
    clear hE
    obtain ⟨hgb, hm⟩ := gd_t hm
    cases sm hm
    exact kzret (isb_n hgb) C X dX6_in_15
  clear hm
  have hm := hE
  clear hE
  refine lv_icmp_lt (tgt := 14) hx hb dX6_in_2 (by decide) (fun hc => ?_) (fun hc => ?_)
  · have hm := ifp hc hm
    refine lv_iconst (v := 0) hx hb dX6_in_14 (by decide) ?_
    cases sm hm
    exact K _ _ _ X (lv_sub hl [] rfl)
  · have hm := ifn hc hm
    refine lv_iload_n hx hb dX6_in_5 rfl (lv_at hl 0 rfl) ?_
    refine lv_iload_n hx hb dX6_in_6 rfl (lv_at hl 2 rfl) ?_
    refine lv_icmp_gt (tgt := 14) hx hb dX6_in_7 (by decide) (fun hc => ?_) (fun hc => ?_)
    · have hm := ifp hc hm
      refine lv_iconst (v := 0) hx hb dX6_in_14 (by decide) ?_
      cases sm hm
      exact K _ _ _ X (lv_sub hl [] rfl)
    · have hm := ifn hc hm
      refine lv_iconst (v := 1) hx hb dX6_in_10 (by decide) ?_
      refine lv_goto (tgt := 15) hx hb dX6_in_11 (by decide) ?_
      cases sm hm
      exact K _ _ _ X (lv_sub hl [] rfl)
-- X6 BrushStrokesModel.isStroke(I)Z
abbrev rX6_isStroke : Room := { frames := 1, cells := 0, slots := 0, locals := 22 }
theorem fl_X6_isStroke_7 : (Cond.fieldLink RX6 7 "BrushStrokesModel" "z" "[I") ∈ wsX6_isStroke := by decide +kernel
theorem in_X6_isStroke_X6 : ∀ w ∈ u_ws RX6 TX6 16, w ∈ wsX6_isStroke := by decide +kernel
theorem cw_X6_isStroke_X6_in_39 {p : Program} {s : State} {m : MethodId} {args : Array Value} {meth : Method} {c : Code} {g : kG} {A : Nat → Prop} (C : CT g p s m args meth c RX6 cX6_isStroke 2 (some .boolean) wsX6_isStroke A) : CallB rX6_isStroke s args RX6 39 yX6_in cX6_in 3 (some .boolean) wsX6_in rX6_in 0 0 3 ∧ (Cond.static yX6_in).before args s = true := cwS 3 C.2.2.2.2.2.1 gX6_isStroke_X6_in rfl rfl rfl (by decide +kernel) ⟨Nat.le_of_ble_eq_true rfl, Nat.le_of_ble_eq_true rfl⟩
noncomputable def fX6_isStroke (p1 : Int32) (u : MS) : Option (Int32) := gd (inb 296 303) ((fX6_in p1 0 ((M_z u (296 : Int32).toNatClampNeg) - 1)).bind fun r1 => gd (isb r1) (some r1))
set_option maxRecDepth 100000 in
set_option maxHeartbeats 4000000 in
theorem kX6_isStroke (l : Launch) (g : kG) (a : Nat → Nat) (p1 : Int32) (u : MS) (o1 : Int32) (hm : fX6_isStroke p1 u = some o1) : KM l yX6_isStroke wsX6_isStroke rX6_isStroke g [.ref (a 0), .int p1] (wM g a u) (some (.int o1)) (wM g a u) 0 0 := by
  refine KM.of (nL := 2) (by decide) rfl (Nat.le_of_ble_eq_true rfl) ?_
  intro p e s m args below meth c A ls C X hl
  have C : CT g p s m args meth c RX6 cX6_isStroke 2 (some .boolean) wsX6_isStroke A := C
  have hx := C.1
  have hb := C.2.1
  have hl : lv_has ls 2 [(0, .ref (a 0)), (1, .int p1)] := hl
  have hinX6 := in_X6_isStroke_X6
  have hf7 := C.2.2.2.2.2.1 _ fl_X6_isStroke_7
  rw [fX6_isStroke] at hm
  refine lv_iload_n hx hb dX6_isStroke_0 rfl (lv_at hl 1 rfl) ?_
  refine lv_iconst (v := 0) hx hb dX6_isStroke_1 (by decide) ?_
  refine lv_aload_n hx hb dX6_isStroke_2 rfl (lv_at hl 0 rfl) ?_
  refine kget C X 0 (ci := 6) rfl rfl hinX6 1 (by decide) hf7 (v := .ref (a 1)) rfl dX6_isStroke_3 ?_
  refine lv_sipush (v := 296) hx hb dX6_isStroke_6 (by decide) ?_
  obtain ⟨hgi, hm⟩ := gd_t hm
  refine kiald C X 1 rfl hgi dX6_isStroke_9 ?_
  refine lv_iconst (v := 1) hx hb dX6_isStroke_10 (by decide) ?_
  refine lv_isub hx hb dX6_isStroke_11 ?_
  obtain ⟨r1, hcl, hm⟩ := bnd hm
  refine kS0 C X (kX6_in l g p1 0 ((M_z u (296 : Int32).toNatClampNeg) - 1) r1 hcl) (cw_X6_isStroke_X6_in_39 C) (As := [.int p1, .int 0, .int ((M_z u (296 : Int32).toNatClampNeg) - 1)]) rfl hl (rest := []) rfl (Nat.le_of_ble_eq_true rfl) (st2 := [.int r1]) rfl dX6_isStroke_12 ⟨Nat.le_of_ble_eq_true rfl, Nat.le_of_ble_eq_true rfl⟩ (fun H locs X => ?_)
  clear hcl
  obtain ⟨hgb, hm⟩ := gd_t hm
  cases sm hm
  exact kzret (isb_n hgb) C X dX6_isStroke_15
-- X6 BrushStrokesModel.points(I)I
abbrev rX6_points : Room := { frames := 0, cells := 0, slots := 0, locals := 0 }
theorem fl_X6_points_7 : (Cond.fieldLink RX6 7 "BrushStrokesModel" "z" "[I") ∈ wsX6_points := by decide +kernel
theorem in_X6_points_X6 : ∀ w ∈ u_ws RX6 TX6 16, w ∈ wsX6_points := by decide +kernel
noncomputable def fX6_points (p1 : Int32) (u : MS) : Option (Int32) := gd (inb (74 * p1) 303) (some (M_z u (74 * p1).toNatClampNeg))
set_option maxRecDepth 100000 in
set_option maxHeartbeats 4000000 in
theorem kX6_points (l : Launch) (g : kG) (a : Nat → Nat) (p1 : Int32) (u : MS) (o1 : Int32) (hm : fX6_points p1 u = some o1) : KM l yX6_points wsX6_points rX6_points g [.ref (a 0), .int p1] (wM g a u) (some (.int o1)) (wM g a u) 0 0 := by
  refine KM.of (nL := 2) (by decide) rfl (Nat.le_of_ble_eq_true rfl) ?_
  intro p e s m args below meth c A ls C X hl
  have C : CT g p s m args meth c RX6 cX6_points 2 (some .int) wsX6_points A := C
  have hx := C.1
  have hb := C.2.1
  have hl : lv_has ls 2 [(0, .ref (a 0)), (1, .int p1)] := hl
  have hinX6 := in_X6_points_X6
  have hf7 := C.2.2.2.2.2.1 _ fl_X6_points_7
  rw [fX6_points] at hm
  refine lv_aload_n hx hb dX6_points_0 rfl (lv_at hl 0 rfl) ?_
  refine kget C X 0 (ci := 6) rfl rfl hinX6 1 (by decide) hf7 (v := .ref (a 1)) rfl dX6_points_1 ?_
  refine lv_bipush (v := 74) hx hb dX6_points_4 (by decide) ?_
  refine lv_iload_n hx hb dX6_points_6 rfl (lv_at hl 1 rfl) ?_
  refine lv_imul hx hb dX6_points_7 ?_
  obtain ⟨hgi, hm⟩ := gd_t hm
  refine kiald C X 1 rfl hgi dX6_points_8 ?_
  cases sm hm
  exact kiret C X dX6_points_9
-- X6 BrushStrokesModel.keptOf(I)I
abbrev rX6_keptOf : Room := { frames := 0, cells := 0, slots := 0, locals := 0 }
theorem fl_X6_keptOf_7 : (Cond.fieldLink RX6 7 "BrushStrokesModel" "z" "[I") ∈ wsX6_keptOf := by decide +kernel
theorem in_X6_keptOf_X6 : ∀ w ∈ u_ws RX6 TX6 16, w ∈ wsX6_keptOf := by decide +kernel
noncomputable def fX6_keptOf (p1 : Int32) (u : MS) : Option (Int32) := gd (inb ((74 * p1) + 1) 303) (some (M_z u ((74 * p1) + 1).toNatClampNeg))
set_option maxRecDepth 100000 in
set_option maxHeartbeats 4000000 in
theorem kX6_keptOf (l : Launch) (g : kG) (a : Nat → Nat) (p1 : Int32) (u : MS) (o1 : Int32) (hm : fX6_keptOf p1 u = some o1) : KM l yX6_keptOf wsX6_keptOf rX6_keptOf g [.ref (a 0), .int p1] (wM g a u) (some (.int o1)) (wM g a u) 0 0 := by
  refine KM.of (nL := 2) (by decide) rfl (Nat.le_of_ble_eq_true rfl) ?_
  intro p e s m args below meth c A ls C X hl
  have C : CT g p s m args meth c RX6 cX6_keptOf 2 (some .int) wsX6_keptOf A := C
  have hx := C.1
  have hb := C.2.1
  have hl : lv_has ls 2 [(0, .ref (a 0)), (1, .int p1)] := hl
  have hinX6 := in_X6_keptOf_X6
  have hf7 := C.2.2.2.2.2.1 _ fl_X6_keptOf_7
  rw [fX6_keptOf] at hm
  refine lv_aload_n hx hb dX6_keptOf_0 rfl (lv_at hl 0 rfl) ?_
  refine kget C X 0 (ci := 6) rfl rfl hinX6 1 (by decide) hf7 (v := .ref (a 1)) rfl dX6_keptOf_1 ?_
  refine lv_bipush (v := 74) hx hb dX6_keptOf_4 (by decide) ?_
  refine lv_iload_n hx hb dX6_keptOf_6 rfl (lv_at hl 1 rfl) ?_
  refine lv_imul hx hb dX6_keptOf_7 ?_
  refine lv_iconst (v := 1) hx hb dX6_keptOf_8 (by decide) ?_
  refine lv_iadd hx hb dX6_keptOf_9 ?_
  obtain ⟨hgi, hm⟩ := gd_t hm
  refine kiald C X 1 rfl hgi dX6_keptOf_10 ?_
  cases sm hm
  exact kiret C X dX6_keptOf_11
-- X6 BrushStrokesModel.isPoint(II)Z
abbrev rX6_isPoint : Room := { frames := 2, cells := 0, slots := 0, locals := 43 }
theorem cw_X6_isPoint_X6_points_47 {p : Program} {s : State} {m : MethodId} {args : Array Value} {meth : Method} {c : Code} {g : kG} {A : Nat → Prop} (C : CT g p s m args meth c RX6 cX6_isPoint 3 (some .boolean) wsX6_isPoint A) : CallW rX6_isPoint s args RX6 RX6 47 yX6_points cX6_points 2 (some .int) wsX6_points rX6_points 0 0 1 := cwV 1 C.2.2.2.2.2.1 gX6_isPoint_X6_points rfl rfl rfl (by decide +kernel) ⟨Nat.le_of_ble_eq_true rfl, Nat.le_of_ble_eq_true rfl⟩
theorem cw_X6_isPoint_X6_in_39 {p : Program} {s : State} {m : MethodId} {args : Array Value} {meth : Method} {c : Code} {g : kG} {A : Nat → Prop} (C : CT g p s m args meth c RX6 cX6_isPoint 3 (some .boolean) wsX6_isPoint A) : CallB rX6_isPoint s args RX6 39 yX6_in cX6_in 3 (some .boolean) wsX6_in rX6_in 0 0 3 ∧ (Cond.static yX6_in).before args s = true := cwS 3 C.2.2.2.2.2.1 gX6_isPoint_X6_in rfl rfl rfl (by decide +kernel) ⟨Nat.le_of_ble_eq_true rfl, Nat.le_of_ble_eq_true rfl⟩
theorem cw_X6_isPoint_X6_isStroke_43 {p : Program} {s : State} {m : MethodId} {args : Array Value} {meth : Method} {c : Code} {g : kG} {A : Nat → Prop} (C : CT g p s m args meth c RX6 cX6_isPoint 3 (some .boolean) wsX6_isPoint A) : CallW rX6_isPoint s args RX6 RX6 43 yX6_isStroke cX6_isStroke 2 (some .boolean) wsX6_isStroke rX6_isStroke 0 0 1 := cwV 1 C.2.2.2.2.2.1 gX6_isPoint_X6_isStroke rfl rfl rfl (by decide +kernel) ⟨Nat.le_of_ble_eq_true rfl, Nat.le_of_ble_eq_true rfl⟩
noncomputable def fX6_isPoint (p1 : Int32) (p2 : Int32) (u : MS) : Option (Int32) := (fX6_isStroke p1 u).bind fun r1 => ((if r1 = 0 then (some 0) else ((fX6_points p1 u).bind fun r5 => (fX6_in p2 0 (r5 - 1)).bind fun r6 => if r6 = 0 then (some 0) else (some 1))) : Option (Int32)).bind fun v4 => gd (isb v4) (some v4)
set_option maxRecDepth 100000 in
set_option maxHeartbeats 4000000 in
theorem kX6_isPoint (l : Launch) (g : kG) (a : Nat → Nat) (p1 : Int32) (p2 : Int32) (u : MS) (o1 : Int32) (hm : fX6_isPoint p1 p2 u = some o1) : KM l yX6_isPoint wsX6_isPoint rX6_isPoint g [.ref (a 0), .int p1, .int p2] (wM g a u) (some (.int o1)) (wM g a u) 0 0 := by
  refine KM.of (nL := 3) (by decide) rfl (Nat.le_of_ble_eq_true rfl) ?_
  intro p e s m args below meth c A ls C X hl
  have C : CT g p s m args meth c RX6 cX6_isPoint 3 (some .boolean) wsX6_isPoint A := C
  have hx := C.1
  have hb := C.2.1
  have hl : lv_has ls 3 [(0, .ref (a 0)), (1, .int p1), (2, .int p2)] := hl
  rw [fX6_isPoint] at hm
  refine lv_aload_n hx hb dX6_isPoint_0 rfl (lv_at hl 0 rfl) ?_
  refine lv_iload_n hx hb dX6_isPoint_1 rfl (lv_at hl 1 rfl) ?_
  obtain ⟨r1, hcl, hm⟩ := bnd hm
  refine kVW C X (kX6_isStroke l g a p1 u r1 hcl) (cw_X6_isPoint_X6_isStroke_43 C) 0 (ci := 6) rfl rfl (As := [.int p1]) rfl hl (rest := []) rfl (Nat.le_of_ble_eq_true rfl) (st2 := [.int r1]) rfl dX6_isPoint_2 ⟨Nat.le_of_ble_eq_true rfl, Nat.le_of_ble_eq_true rfl⟩ (fun H locs X => ?_)
  clear hcl
  obtain ⟨v4, hE, hm⟩ := bnd hm
  have K : ∀ (H : Heap) (locs : List Loc) (ls : Array Slot), ST g A s H locs (wM g a u) → lv_has ls 3 [] → W p l e rX6_isPoint s m args below meth c H locs 0 0 (kEnd g below args s (some (.int o1)) (wM g a u) A 0 0) (F0 m 28 ls [.int v4]) := by
    intro H locs ls X hl
    clear hE
    obtain ⟨hgb, hm⟩ := gd_t hm
    cases sm hm
    exact kzret (isb_n hgb) C X dX6_isPoint_28
  clear hm
  have hm := hE
  clear hE
  refine lv_if_eq (tgt := 27) hx hb dX6_isPoint_5 (by decide) (fun hc => ?_) (fun hc => ?_)
  · have hm := ifp hc hm
    refine lv_iconst (v := 0) hx hb dX6_isPoint_27 (by decide) ?_
    cases sm hm
    exact K _ _ _ X (lv_sub hl [] rfl)
  · have hm := ifn hc hm
    refine lv_iload_n hx hb dX6_isPoint_8 rfl (lv_at hl 2 rfl) ?_
    refine lv_iconst (v := 0) hx hb dX6_isPoint_9 (by decide) ?_
    refine lv_aload_n hx hb dX6_isPoint_10 rfl (lv_at hl 0 rfl) ?_
    refine lv_iload_n hx hb dX6_isPoint_11 rfl (lv_at hl 1 rfl) ?_
    obtain ⟨r5, hcl, hm⟩ := bnd hm
    refine kVW C X (kX6_points l g a p1 u r5 hcl) (cw_X6_isPoint_X6_points_47 C) 0 (ci := 6) rfl rfl (As := [.int p1]) rfl hl (rest := [.int 0, .int p2]) rfl (Nat.le_of_ble_eq_true rfl) (st2 := [.int r5, .int 0, .int p2]) rfl dX6_isPoint_12 ⟨Nat.le_of_ble_eq_true rfl, Nat.le_of_ble_eq_true rfl⟩ (fun H locs X => ?_)
    clear hcl
    refine lv_iconst (v := 1) hx hb dX6_isPoint_15 (by decide) ?_
    refine lv_isub hx hb dX6_isPoint_16 ?_
    obtain ⟨r6, hcl, hm⟩ := bnd hm
    refine kS0 C X (kX6_in l g p2 0 (r5 - 1) r6 hcl) (cw_X6_isPoint_X6_in_39 C) (As := [.int p2, .int 0, .int (r5 - 1)]) rfl hl (rest := []) rfl (Nat.le_of_ble_eq_true rfl) (st2 := [.int r6]) rfl dX6_isPoint_17 ⟨Nat.le_of_ble_eq_true rfl, Nat.le_of_ble_eq_true rfl⟩ (fun H locs X => ?_)
    clear hcl
    refine lv_if_eq (tgt := 27) hx hb dX6_isPoint_20 (by decide) (fun hc => ?_) (fun hc => ?_)
    · have hm := ifp hc hm
      refine lv_iconst (v := 0) hx hb dX6_isPoint_27 (by decide) ?_
      cases sm hm
      exact K _ _ _ X (lv_sub hl [] rfl)
    · have hm := ifn hc hm
      refine lv_iconst (v := 1) hx hb dX6_isPoint_23 (by decide) ?_
      refine lv_goto (tgt := 28) hx hb dX6_isPoint_24 (by decide) ?_
      cases sm hm
      exact K _ _ _ X (lv_sub hl [] rfl)
-- X6 BrushStrokesModel.of(III)I
abbrev rX6_of : Room := { frames := 0, cells := 0, slots := 0, locals := 0 }
theorem fl_X6_of_7 : (Cond.fieldLink RX6 7 "BrushStrokesModel" "z" "[I") ∈ wsX6_of := by decide +kernel
theorem in_X6_of_X6 : ∀ w ∈ u_ws RX6 TX6 16, w ∈ wsX6_of := by decide +kernel
noncomputable def fX6_of (p1 : Int32) (p2 : Int32) (p3 : Int32) (u : MS) : Option (Int32) := gd (inb ((((74 * p1) + 2) + (3 * p2)) + p3) 303) (some (M_z u ((((74 * p1) + 2) + (3 * p2)) + p3).toNatClampNeg))
set_option maxRecDepth 100000 in
set_option maxHeartbeats 4000000 in
theorem kX6_of (l : Launch) (g : kG) (a : Nat → Nat) (p1 : Int32) (p2 : Int32) (p3 : Int32) (u : MS) (o1 : Int32) (hm : fX6_of p1 p2 p3 u = some o1) : KM l yX6_of wsX6_of rX6_of g [.ref (a 0), .int p1, .int p2, .int p3] (wM g a u) (some (.int o1)) (wM g a u) 0 0 := by
  refine KM.of (nL := 4) (by decide) rfl (Nat.le_of_ble_eq_true rfl) ?_
  intro p e s m args below meth c A ls C X hl
  have C : CT g p s m args meth c RX6 cX6_of 4 (some .int) wsX6_of A := C
  have hx := C.1
  have hb := C.2.1
  have hl : lv_has ls 4 [(0, .ref (a 0)), (1, .int p1), (2, .int p2), (3, .int p3)] := hl
  have hinX6 := in_X6_of_X6
  have hf7 := C.2.2.2.2.2.1 _ fl_X6_of_7
  rw [fX6_of] at hm
  refine lv_aload_n hx hb dX6_of_0 rfl (lv_at hl 0 rfl) ?_
  refine kget C X 0 (ci := 6) rfl rfl hinX6 1 (by decide) hf7 (v := .ref (a 1)) rfl dX6_of_1 ?_
  refine lv_bipush (v := 74) hx hb dX6_of_4 (by decide) ?_
  refine lv_iload_n hx hb dX6_of_6 rfl (lv_at hl 1 rfl) ?_
  refine lv_imul hx hb dX6_of_7 ?_
  refine lv_iconst (v := 2) hx hb dX6_of_8 (by decide) ?_
  refine lv_iadd hx hb dX6_of_9 ?_
  refine lv_iconst (v := 3) hx hb dX6_of_10 (by decide) ?_
  refine lv_iload_n hx hb dX6_of_11 rfl (lv_at hl 2 rfl) ?_
  refine lv_imul hx hb dX6_of_12 ?_
  refine lv_iadd hx hb dX6_of_13 ?_
  refine lv_iload_n hx hb dX6_of_14 rfl (lv_at hl 3 rfl) ?_
  refine lv_iadd hx hb dX6_of_15 ?_
  obtain ⟨hgi, hm⟩ := gd_t hm
  refine kiald C X 1 rfl hgi dX6_of_16 ?_
  cases sm hm
  exact kiret C X dX6_of_17
-- X6 BrushStrokesModel.put(IIIII)V
abbrev rX6_put : Room := { frames := 0, cells := 0, slots := 0, locals := 0 }
theorem fl_X6_put_7 : (Cond.fieldLink RX6 7 "BrushStrokesModel" "z" "[I") ∈ wsX6_put := by decide +kernel
theorem in_X6_put_X6 : ∀ w ∈ u_ws RX6 TX6 16, w ∈ wsX6_put := by decide +kernel
noncomputable def fX6_put (p1 : Int32) (p2 : Int32) (p3 : Int32) (p4 : Int32) (p5 : Int32) (u : MS) : Option (MS) := gd (inb (((74 * p1) + 2) + (3 * p2)) 303) (lt (M_s_z u (upd (M_z u) (((74 * p1) + 2) + (3 * p2)).toNatClampNeg p3)) fun u1 => gd (inb ((((74 * p1) + 2) + (3 * p2)) + 1) 303) (lt (M_s_z u1 (upd (M_z u1) ((((74 * p1) + 2) + (3 * p2)) + 1).toNatClampNeg p4)) fun u2 => gd (inb ((((74 * p1) + 2) + (3 * p2)) + 2) 303) (lt (M_s_z u2 (upd (M_z u2) ((((74 * p1) + 2) + (3 * p2)) + 2).toNatClampNeg p5)) fun u3 => some u3)))
set_option maxRecDepth 100000 in
set_option maxHeartbeats 4000000 in
theorem kX6_put (l : Launch) (g : kG) (a : Nat → Nat) (p1 : Int32) (p2 : Int32) (p3 : Int32) (p4 : Int32) (p5 : Int32) (u : MS) (o1 : MS) (hm : fX6_put p1 p2 p3 p4 p5 u = some o1) : KM l yX6_put wsX6_put rX6_put g [.ref (a 0), .int p1, .int p2, .int p3, .int p4, .int p5] (wM g a u) none (wM g a o1) 0 0 := by
  refine KM.of (nL := 7) (by decide) rfl (Nat.le_of_ble_eq_true rfl) ?_
  intro p e s m args below meth c A ls C X hl
  have C : CT g p s m args meth c RX6 cX6_put 7 none wsX6_put A := C
  have hx := C.1
  have hb := C.2.1
  have hl : lv_has ls 7 [(0, .ref (a 0)), (1, .int p1), (2, .int p2), (3, .int p3), (4, .int p4), (5, .int p5)] := hl
  have hinX6 := in_X6_put_X6
  have hf7 := C.2.2.2.2.2.1 _ fl_X6_put_7
  rw [fX6_put] at hm
  refine lv_bipush (v := 74) hx hb dX6_put_0 (by decide) ?_
  refine lv_iload_n hx hb dX6_put_2 rfl (lv_at hl 1 rfl) ?_
  refine lv_imul hx hb dX6_put_3 ?_
  refine lv_iconst (v := 2) hx hb dX6_put_4 (by decide) ?_
  refine lv_iadd hx hb dX6_put_5 ?_
  refine lv_iconst (v := 3) hx hb dX6_put_6 (by decide) ?_
  refine lv_iload_n hx hb dX6_put_7 rfl (lv_at hl 2 rfl) ?_
  refine lv_imul hx hb dX6_put_8 ?_
  refine lv_iadd hx hb dX6_put_9 ?_
  refine lv_istore (lv' := [(6, .int (((74 * p1) + 2) + (3 * p2))), (0, .ref (a 0)), (1, .int p1), (2, .int p2), (3, .int p3), (4, .int p4), (5, .int p5)]) hx hb dX6_put_10 hl (by decide) rfl (fun ls hl => ?_)
  refine lv_aload_n hx hb dX6_put_12 rfl (lv_at hl 1 rfl) ?_
  refine kget C X 0 (ci := 6) rfl rfl hinX6 1 (by decide) hf7 (v := .ref (a 1)) rfl dX6_put_13 ?_
  refine lv_iload hx hb dX6_put_16 (lv_at hl 0 rfl) ?_
  refine lv_iload_n hx hb dX6_put_18 rfl (lv_at hl 4 rfl) ?_
  obtain ⟨hgi, hm⟩ := gd_t hm
  obtain ⟨u1, eu⟩ : ∃ z, z = M_s_z u (upd (M_z u) (((74 * p1) + 2) + (3 * p2)).toNatClampNeg p3) := ⟨_, rfl⟩
  have hm := lt_t eu hm
  refine kiast C X 1 rfl hgi (w2 := wM g a u1) (by subst eu; rfl) dX6_put_19 (fun H locs X => ?_)
  clear eu
  refine lv_aload_n hx hb dX6_put_20 rfl (lv_at hl 1 rfl) ?_
  refine kget C X 0 (ci := 6) rfl rfl hinX6 1 (by decide) hf7 (v := .ref (a 1)) rfl dX6_put_21 ?_
  refine lv_iload hx hb dX6_put_24 (lv_at hl 0 rfl) ?_
  refine lv_iconst (v := 1) hx hb dX6_put_26 (by decide) ?_
  refine lv_iadd hx hb dX6_put_27 ?_
  refine lv_iload hx hb dX6_put_28 (lv_at hl 5 rfl) ?_
  obtain ⟨hgi, hm⟩ := gd_t hm
  obtain ⟨u2, eu⟩ : ∃ z, z = M_s_z u1 (upd (M_z u1) ((((74 * p1) + 2) + (3 * p2)) + 1).toNatClampNeg p4) := ⟨_, rfl⟩
  have hm := lt_t eu hm
  refine kiast C X 1 rfl hgi (w2 := wM g a u2) (by subst eu; rfl) dX6_put_30 (fun H locs X => ?_)
  clear eu
  refine lv_aload_n hx hb dX6_put_31 rfl (lv_at hl 1 rfl) ?_
  refine kget C X 0 (ci := 6) rfl rfl hinX6 1 (by decide) hf7 (v := .ref (a 1)) rfl dX6_put_32 ?_
  refine lv_iload hx hb dX6_put_35 (lv_at hl 0 rfl) ?_
  refine lv_iconst (v := 2) hx hb dX6_put_37 (by decide) ?_
  refine lv_iadd hx hb dX6_put_38 ?_
  refine lv_iload hx hb dX6_put_39 (lv_at hl 6 rfl) ?_
  obtain ⟨hgi, hm⟩ := gd_t hm
  obtain ⟨u3, eu⟩ : ∃ z, z = M_s_z u2 (upd (M_z u2) ((((74 * p1) + 2) + (3 * p2)) + 2).toNatClampNeg p5) := ⟨_, rfl⟩
  have hm := lt_t eu hm
  refine kiast C X 1 rfl hgi (w2 := wM g a u3) (by subst eu; rfl) dX6_put_41 (fun H locs X => ?_)
  clear eu
  cases sm hm
  exact kvret C X dX6_put_42
-- X6 BrushStrokesModel.ones(I)I
abbrev rX6_ones : Room := { frames := 0, cells := 0, slots := 0, locals := 0 }
noncomputable def bX6_ones_4 (c1 : Int32) : Int32 × Int32 → Option ((Int32 × Int32) ⊕ (Int32))
  | (x2, x3) => if 24 ≤ x3 then (some (.inr x2)) else (some (.inl (x2 + ((c1 >>> (x3 &&& 31)) &&& 1), x3 + 1)))
noncomputable def lX6_ones_4 (c1 : Int32) (x2 : Int32) (x3 : Int32) : Option (Int32) := lp (bX6_ones_4 c1) (x2, x3)
theorem lX6_ones_4_eq (c1 : Int32) (x2 : Int32) (x3 : Int32) : lX6_ones_4 c1 x2 x3 = (if 24 ≤ x3 then (some (.inr x2)) else (some (.inl (x2 + ((c1 >>> (x3 &&& 31)) &&& 1), x3 + 1)))).bind fun r => Sum.elim (fun z => lX6_ones_4 c1 z.1 z.2) (fun r => some r) r := lp_eq (bX6_ones_4 c1) (x2, x3)
set_option maxRecDepth 100000 in
set_option maxHeartbeats 4000000 in
theorem tX6_ones_4 {p : Program} {l : Launch} {e : Env} {s : State} {m : MethodId} {args : Array Value} {below : List Frame} {meth : Method} {c : Code} {g : kG} {A : Nat → Prop} {Q : State → Prop} (C : CT g p s m args meth c RX6 cX6_ones 3 (some .int) wsX6_ones A) (c1 : Int32) (y4 : Int32) (kk : ∀ (H : Heap) (locs : List Loc) (ls : Array Slot), ST g A s H locs ([]) → lv_has ls 3 [(1, .int y4)] → W p l e rX6_ones s m args below meth c H locs 0 0 Q (F0 m 24 ls [])) : ∀ (n : Nat) (x2 : Int32) (x3 : Int32), whl (bX6_ones_4 c1) n (x2, x3) = some y4 → ∀ (H : Heap) (locs : List Loc) (ls : Array Slot), ST g A s H locs ([]) → lv_has ls 3 [(0, .int c1), (1, .int x2), (2, .int x3)] → W p l e rX6_ones s m args below meth c H locs 0 0 Q (F0 m 4 ls []) := by
  have hx := C.1
  have hb := C.2.1
  intro n
  induction n with
  | zero =>
    intro x2 x3 hm
    cases hm
  | succ n ih =>
    intro x2 x3 hm H locs ls X hl
    rw [whl] at hm
    obtain ⟨q, hq, hm2⟩ := bnd hm
    clear hm
    have hm := hq
    clear hq
    rw [bX6_ones_4] at hm
    refine lv_iload_n hx hb dX6_ones_4 rfl (lv_at hl 2 rfl) ?_
    refine lv_bipush (v := 24) hx hb dX6_ones_5 (by decide) ?_
    refine lv_icmp_ge (tgt := 24) hx hb dX6_ones_7 (by decide) (fun hc => ?_) (fun hc => ?_)
    · have hm := ifp hc hm
      cases sm hm
      cases sm hm2
      exact kk _ _ _ X (lv_sub hl [1] rfl)
    · have hm := ifn hc hm
      refine lv_iload_n hx hb dX6_ones_10 rfl (lv_at hl 1 rfl) ?_
      refine lv_iload_n hx hb dX6_ones_11 rfl (lv_at hl 0 rfl) ?_
      refine lv_iload_n hx hb dX6_ones_12 rfl (lv_at hl 2 rfl) ?_
      refine lv_ishr hx hb dX6_ones_13 ?_
      refine lv_iconst (v := 1) hx hb dX6_ones_14 (by decide) ?_
      refine lv_iand hx hb dX6_ones_15 ?_
      refine lv_iadd hx hb dX6_ones_16 ?_
      refine lv_istore_n (lv' := [(1, .int (x2 + ((c1 >>> (x3 &&& 31)) &&& 1))), (0, .int c1), (2, .int x3)]) hx hb dX6_ones_17 rfl hl (by decide) rfl (fun ls hl => ?_)
      refine lv_iinc (v := x3 + 1) (lv' := [(2, .int (x3 + 1)), (1, .int (x2 + ((c1 >>> (x3 &&& 31)) &&& 1))), (0, .int c1)]) hx hb dX6_ones_18 hl (k := 2) rfl rfl (by decide) rfl (fun ls hl => ?_)
      refine lv_goto (tgt := 4) hx hb dX6_ones_21 (by decide) ?_
      cases sm hm
      exact ih _ _ hm2 _ _ _ X (lv_sub hl [2, 1, 0] rfl)
noncomputable def fX6_ones (p1 : Int32) : Option (Int32) := (lX6_ones_4 p1 0 0).bind fun y5 => some y5
set_option maxRecDepth 100000 in
set_option maxHeartbeats 4000000 in
theorem kX6_ones (l : Launch) (g : kG) (p1 : Int32) (o1 : Int32) (hm : fX6_ones p1 = some o1) : KM l yX6_ones wsX6_ones rX6_ones g [.int p1] ([]) (some (.int o1)) ([]) 0 0 := by
  refine KM.of (nL := 3) (by decide) rfl (Nat.le_of_ble_eq_true rfl) ?_
  intro p e s m args below meth c A ls C X hl
  have C : CT g p s m args meth c RX6 cX6_ones 3 (some .int) wsX6_ones A := C
  have hx := C.1
  have hb := C.2.1
  have hl : lv_has ls 3 [(0, .int p1)] := hl
  rw [fX6_ones] at hm
  refine lv_iconst (v := 0) hx hb dX6_ones_0 (by decide) ?_
  refine lv_istore_n (lv' := [(1, .int 0), (0, .int p1)]) hx hb dX6_ones_1 rfl hl (by decide) rfl (fun ls hl => ?_)
  refine lv_iconst (v := 0) hx hb dX6_ones_2 (by decide) ?_
  refine lv_istore_n (lv' := [(2, .int 0), (1, .int 0), (0, .int p1)]) hx hb dX6_ones_3 rfl hl (by decide) rfl (fun ls hl => ?_)
  obtain ⟨y5, hL, hm⟩ := bnd hm
  obtain ⟨nn, hn⟩ := lp_run hL
  refine tX6_ones_4 C p1 y5 (fun H locs ls X hl => ?_) nn _ _ hn _ _ _ X (lv_sub hl [2, 1, 0] rfl)
  clear hL hn
  refine lv_iload_n hx hb dX6_ones_24 rfl (lv_at hl 0 rfl) ?_
  cases sm hm
  exact kiret C X dX6_ones_25
-- X6 BrushStrokesModel.has(II)Z
abbrev rX6_has : Room := { frames := 0, cells := 0, slots := 0, locals := 0 }
noncomputable def fX6_has (p1 : Int32) (p2 : Int32) : Option (Int32) := ((if ((p1 >>> (p2 &&& 31)) &&& 1) = 1 then (some 1) else (some 0)) : Option (Int32)).bind fun v1 => gd (isb v1) (some v1)
set_option maxRecDepth 100000 in
set_option maxHeartbeats 4000000 in
theorem kX6_has (l : Launch) (g : kG) (p1 : Int32) (p2 : Int32) (o1 : Int32) (hm : fX6_has p1 p2 = some o1) : KM l yX6_has wsX6_has rX6_has g [.int p1, .int p2] ([]) (some (.int o1)) ([]) 0 0 := by
  refine KM.of (nL := 2) (by decide) rfl (Nat.le_of_ble_eq_true rfl) ?_
  intro p e s m args below meth c A ls C X hl
  have C : CT g p s m args meth c RX6 cX6_has 2 (some .boolean) wsX6_has A := C
  have hx := C.1
  have hb := C.2.1
  have hl : lv_has ls 2 [(0, .int p1), (1, .int p2)] := hl
  rw [fX6_has] at hm
  refine lv_iload_n hx hb dX6_has_0 rfl (lv_at hl 0 rfl) ?_
  refine lv_iload_n hx hb dX6_has_1 rfl (lv_at hl 1 rfl) ?_
  refine lv_ishr hx hb dX6_has_2 ?_
  refine lv_iconst (v := 1) hx hb dX6_has_3 (by decide) ?_
  refine lv_iand hx hb dX6_has_4 ?_
  refine lv_iconst (v := 1) hx hb dX6_has_5 (by decide) ?_
  obtain ⟨v1, hE, hm⟩ := bnd hm
  have K : ∀ (H : Heap) (locs : List Loc) (ls : Array Slot), ST g A s H locs ([]) → lv_has ls 2 [] → W p l e rX6_has s m args below meth c H locs 0 0 (kEnd g below args s (some (.int o1)) ([]) A 0 0) (F0 m 14 ls [.int v1]) := by
    intro H locs ls X hl
    clear hE
    obtain ⟨hgb, hm⟩ := gd_t hm
    cases sm hm
    exact kzret (isb_n hgb) C X dX6_has_14
  clear hm
  have hm := hE
  clear hE
  refine lv_icmp_ne (tgt := 13) hx hb dX6_has_6 (by decide) (fun hc => ?_) (fun hc => ?_)
  · have hm := ifn hc hm
    refine lv_iconst (v := 0) hx hb dX6_has_13 (by decide) ?_
    cases sm hm
    exact K _ _ _ X (lv_sub hl [] rfl)
  · have hm := ifp hc hm
    refine lv_iconst (v := 1) hx hb dX6_has_9 (by decide) ?_
    refine lv_goto (tgt := 14) hx hb dX6_has_10 (by decide) ?_
    cases sm hm
    exact K _ _ _ X (lv_sub hl [] rfl)
-- X6 BrushStrokesModel.all(I)I
abbrev rX6_all : Room := { frames := 1, cells := 0, slots := 0, locals := 21 }
theorem cw_X6_all_X6_points_47 {p : Program} {s : State} {m : MethodId} {args : Array Value} {meth : Method} {c : Code} {g : kG} {A : Nat → Prop} (C : CT g p s m args meth c RX6 cX6_all 2 (some .int) wsX6_all A) : CallW rX6_all s args RX6 RX6 47 yX6_points cX6_points 2 (some .int) wsX6_points rX6_points 0 0 1 := cwV 1 C.2.2.2.2.2.1 gX6_all_X6_points rfl rfl rfl (by decide +kernel) ⟨Nat.le_of_ble_eq_true rfl, Nat.le_of_ble_eq_true rfl⟩
noncomputable def fX6_all (p1 : Int32) (u : MS) : Option (Int32) := (fX6_points p1 u).bind fun r1 => some ((1 <<< (r1 &&& 31)) - 1)
set_option maxRecDepth 100000 in
set_option maxHeartbeats 4000000 in
theorem kX6_all (l : Launch) (g : kG) (a : Nat → Nat) (p1 : Int32) (u : MS) (o1 : Int32) (hm : fX6_all p1 u = some o1) : KM l yX6_all wsX6_all rX6_all g [.ref (a 0), .int p1] (wM g a u) (some (.int o1)) (wM g a u) 0 0 := by
  refine KM.of (nL := 2) (by decide) rfl (Nat.le_of_ble_eq_true rfl) ?_
  intro p e s m args below meth c A ls C X hl
  have C : CT g p s m args meth c RX6 cX6_all 2 (some .int) wsX6_all A := C
  have hx := C.1
  have hb := C.2.1
  have hl : lv_has ls 2 [(0, .ref (a 0)), (1, .int p1)] := hl
  rw [fX6_all] at hm
  refine lv_iconst (v := 1) hx hb dX6_all_0 (by decide) ?_
  refine lv_aload_n hx hb dX6_all_1 rfl (lv_at hl 0 rfl) ?_
  refine lv_iload_n hx hb dX6_all_2 rfl (lv_at hl 1 rfl) ?_
  obtain ⟨r1, hcl, hm⟩ := bnd hm
  refine kVW C X (kX6_points l g a p1 u r1 hcl) (cw_X6_all_X6_points_47 C) 0 (ci := 6) rfl rfl (As := [.int p1]) rfl hl (rest := [.int 1]) rfl (Nat.le_of_ble_eq_true rfl) (st2 := [.int r1, .int 1]) rfl dX6_all_3 ⟨Nat.le_of_ble_eq_true rfl, Nat.le_of_ble_eq_true rfl⟩ (fun H locs X => ?_)
  clear hcl
  refine lv_ishl hx hb dX6_all_6 ?_
  refine lv_iconst (v := 1) hx hb dX6_all_7 (by decide) ?_
  refine lv_isub hx hb dX6_all_8 ?_
  cases sm hm
  exact kiret C X dX6_all_9
-- X6 BrushStrokesModel.keepAll(I)V
abbrev rX6_keepAll : Room := { frames := 2, cells := 0, slots := 0, locals := 42 }
theorem fl_X6_keepAll_7 : (Cond.fieldLink RX6 7 "BrushStrokesModel" "z" "[I") ∈ wsX6_keepAll := by decide +kernel
theorem in_X6_keepAll_X6 : ∀ w ∈ u_ws RX6 TX6 16, w ∈ wsX6_keepAll := by decide +kernel
theorem cw_X6_keepAll_X6_all_51 {p : Program} {s : State} {m : MethodId} {args : Array Value} {meth : Method} {c : Code} {g : kG} {A : Nat → Prop} (C : CT g p s m args meth c RX6 cX6_keepAll 2 none wsX6_keepAll A) : CallW rX6_keepAll s args RX6 RX6 51 yX6_all cX6_all 2 (some .int) wsX6_all rX6_all 0 0 1 := cwV 1 C.2.2.2.2.2.1 gX6_keepAll_X6_all rfl rfl rfl (by decide +kernel) ⟨Nat.le_of_ble_eq_true rfl, Nat.le_of_ble_eq_true rfl⟩
noncomputable def fX6_keepAll (p1 : Int32) (u : MS) : Option (MS) := (fX6_all p1 u).bind fun r1 => gd (inb ((74 * p1) + 1) 303) (lt (M_s_z u (upd (M_z u) ((74 * p1) + 1).toNatClampNeg r1)) fun u2 => some u2)
set_option maxRecDepth 100000 in
set_option maxHeartbeats 4000000 in
theorem kX6_keepAll (l : Launch) (g : kG) (a : Nat → Nat) (p1 : Int32) (u : MS) (o1 : MS) (hm : fX6_keepAll p1 u = some o1) : KM l yX6_keepAll wsX6_keepAll rX6_keepAll g [.ref (a 0), .int p1] (wM g a u) none (wM g a o1) 0 0 := by
  refine KM.of (nL := 2) (by decide) rfl (Nat.le_of_ble_eq_true rfl) ?_
  intro p e s m args below meth c A ls C X hl
  have C : CT g p s m args meth c RX6 cX6_keepAll 2 none wsX6_keepAll A := C
  have hx := C.1
  have hb := C.2.1
  have hl : lv_has ls 2 [(0, .ref (a 0)), (1, .int p1)] := hl
  have hinX6 := in_X6_keepAll_X6
  have hf7 := C.2.2.2.2.2.1 _ fl_X6_keepAll_7
  rw [fX6_keepAll] at hm
  refine lv_aload_n hx hb dX6_keepAll_0 rfl (lv_at hl 0 rfl) ?_
  refine kget C X 0 (ci := 6) rfl rfl hinX6 1 (by decide) hf7 (v := .ref (a 1)) rfl dX6_keepAll_1 ?_
  refine lv_bipush (v := 74) hx hb dX6_keepAll_4 (by decide) ?_
  refine lv_iload_n hx hb dX6_keepAll_6 rfl (lv_at hl 1 rfl) ?_
  refine lv_imul hx hb dX6_keepAll_7 ?_
  refine lv_iconst (v := 1) hx hb dX6_keepAll_8 (by decide) ?_
  refine lv_iadd hx hb dX6_keepAll_9 ?_
  refine lv_aload_n hx hb dX6_keepAll_10 rfl (lv_at hl 0 rfl) ?_
  refine lv_iload_n hx hb dX6_keepAll_11 rfl (lv_at hl 1 rfl) ?_
  obtain ⟨r1, hcl, hm⟩ := bnd hm
  refine kVW C X (kX6_all l g a p1 u r1 hcl) (cw_X6_keepAll_X6_all_51 C) 0 (ci := 6) rfl rfl (As := [.int p1]) rfl hl (rest := [.int ((74 * p1) + 1), .ref (a 1)]) rfl (Nat.le_of_ble_eq_true rfl) (st2 := [.int r1, .int ((74 * p1) + 1), .ref (a 1)]) rfl dX6_keepAll_12 ⟨Nat.le_of_ble_eq_true rfl, Nat.le_of_ble_eq_true rfl⟩ (fun H locs X => ?_)
  clear hcl
  obtain ⟨hgi, hm⟩ := gd_t hm
  obtain ⟨u2, eu⟩ : ∃ z, z = M_s_z u (upd (M_z u) ((74 * p1) + 1).toNatClampNeg r1) := ⟨_, rfl⟩
  have hm := lt_t eu hm
  refine kiast C X 1 rfl hgi (w2 := wM g a u2) (by subst eu; rfl) dX6_keepAll_15 (fun H locs X => ?_)
  clear eu
  cases sm hm
  exact kvret C X dX6_keepAll_16
-- X6 BrushStrokesModel.behind(II)I
abbrev rX6_behind : Room := { frames := 1, cells := 0, slots := 0, locals := 21 }
theorem cw_X6_behind_X6_has_54 {p : Program} {s : State} {m : MethodId} {args : Array Value} {meth : Method} {c : Code} {g : kG} {A : Nat → Prop} (C : CT g p s m args meth c RX6 cX6_behind 3 (some .int) wsX6_behind A) : CallB rX6_behind s args RX6 54 yX6_has cX6_has 2 (some .boolean) wsX6_has rX6_has 0 0 2 ∧ (Cond.static yX6_has).before args s = true := cwS 2 C.2.2.2.2.2.1 gX6_behind_X6_has rfl rfl rfl (by decide +kernel) ⟨Nat.le_of_ble_eq_true rfl, Nat.le_of_ble_eq_true rfl⟩
noncomputable def bX6_behind_4 (c1 : Int32) (x2 : Int32) : Option ((Int32) ⊕ (Int32)) := (fX6_has c1 x2).bind fun r4 => if r4 = 0 then (some (.inl (x2 + 1))) else (some (.inr x2))
noncomputable def lX6_behind_4 (c1 : Int32) (x2 : Int32) : Option (Int32) := lp (bX6_behind_4 c1) x2
theorem lX6_behind_4_eq (c1 : Int32) (x2 : Int32) : lX6_behind_4 c1 x2 = ((fX6_has c1 x2).bind fun r4 => if r4 = 0 then (some (.inl (x2 + 1))) else (some (.inr x2))).bind fun r => Sum.elim (fun z => lX6_behind_4 c1 z) (fun r => some r) r := lp_eq (bX6_behind_4 c1) x2
set_option maxRecDepth 100000 in
set_option maxHeartbeats 4000000 in
theorem tX6_behind_4 {p : Program} {l : Launch} {e : Env} {s : State} {m : MethodId} {args : Array Value} {below : List Frame} {meth : Method} {c : Code} {g : kG} {A : Nat → Prop} {Q : State → Prop} (C : CT g p s m args meth c RX6 cX6_behind 3 (some .int) wsX6_behind A) (c1 : Int32) (y3 : Int32) (kk : ∀ (H : Heap) (locs : List Loc) (ls : Array Slot), ST g A s H locs ([]) → lv_has ls 3 [(2, .int y3)] → W p l e rX6_behind s m args below meth c H locs 0 0 Q (F0 m 18 ls [])) : ∀ (n : Nat) (x2 : Int32), whl (bX6_behind_4 c1) n x2 = some y3 → ∀ (H : Heap) (locs : List Loc) (ls : Array Slot), ST g A s H locs ([]) → lv_has ls 3 [(0, .int c1), (2, .int x2)] → W p l e rX6_behind s m args below meth c H locs 0 0 Q (F0 m 4 ls []) := by
  have hx := C.1
  have hb := C.2.1
  intro n
  induction n with
  | zero =>
    intro x2 hm
    cases hm
  | succ n ih =>
    intro x2 hm H locs ls X hl
    rw [whl] at hm
    obtain ⟨q, hq, hm2⟩ := bnd hm
    clear hm
    have hm := hq
    clear hq
    rw [bX6_behind_4] at hm
    refine lv_iload_n hx hb dX6_behind_4 rfl (lv_at hl 0 rfl) ?_
    refine lv_iload_n hx hb dX6_behind_5 rfl (lv_at hl 1 rfl) ?_
    obtain ⟨r4, hcl, hm⟩ := bnd hm
    refine kS0 C X (kX6_has l g c1 x2 r4 hcl) (cw_X6_behind_X6_has_54 C) (As := [.int c1, .int x2]) rfl hl (rest := []) rfl (Nat.le_of_ble_eq_true rfl) (st2 := [.int r4]) rfl dX6_behind_6 ⟨Nat.le_of_ble_eq_true rfl, Nat.le_of_ble_eq_true rfl⟩ (fun H locs X => ?_)
    clear hcl
    refine lv_if_ne (tgt := 18) hx hb dX6_behind_9 (by decide) (fun hc => ?_) (fun hc => ?_)
    · have hm := ifn hc hm
      cases sm hm
      cases sm hm2
      exact kk _ _ _ X (lv_sub hl [1] rfl)
    · have hm := ifp hc hm
      refine lv_iinc (v := x2 + 1) (lv' := [(2, .int (x2 + 1)), (0, .int c1)]) hx hb dX6_behind_12 hl (k := 1) rfl rfl (by decide) rfl (fun ls hl => ?_)
      refine lv_goto (tgt := 4) hx hb dX6_behind_15 (by decide) ?_
      cases sm hm
      exact ih _ hm2 _ _ _ X (lv_sub hl [1, 0] rfl)
noncomputable def fX6_behind (p1 : Int32) (p2 : Int32) : Option (Int32) := (lX6_behind_4 p1 (p2 + 1)).bind fun y5 => some y5
set_option maxRecDepth 100000 in
set_option maxHeartbeats 4000000 in
theorem kX6_behind (l : Launch) (g : kG) (p1 : Int32) (p2 : Int32) (o1 : Int32) (hm : fX6_behind p1 p2 = some o1) : KM l yX6_behind wsX6_behind rX6_behind g [.int p1, .int p2] ([]) (some (.int o1)) ([]) 0 0 := by
  refine KM.of (nL := 3) (by decide) rfl (Nat.le_of_ble_eq_true rfl) ?_
  intro p e s m args below meth c A ls C X hl
  have C : CT g p s m args meth c RX6 cX6_behind 3 (some .int) wsX6_behind A := C
  have hx := C.1
  have hb := C.2.1
  have hl : lv_has ls 3 [(0, .int p1), (1, .int p2)] := hl
  rw [fX6_behind] at hm
  refine lv_iload_n hx hb dX6_behind_0 rfl (lv_at hl 1 rfl) ?_
  refine lv_iconst (v := 1) hx hb dX6_behind_1 (by decide) ?_
  refine lv_iadd hx hb dX6_behind_2 ?_
  refine lv_istore_n (lv' := [(2, .int (p2 + 1)), (0, .int p1), (1, .int p2)]) hx hb dX6_behind_3 rfl hl (by decide) rfl (fun ls hl => ?_)
  obtain ⟨y5, hL, hm⟩ := bnd hm
  obtain ⟨nn, hn⟩ := lp_run hL
  refine tX6_behind_4 C p1 y5 (fun H locs ls X hl => ?_) nn _ hn _ _ _ X (lv_sub hl [1, 0] rfl)
  clear hL hn
  refine lv_iload_n hx hb dX6_behind_18 rfl (lv_at hl 0 rfl) ?_
  cases sm hm
  exact kiret C X dX6_behind_19
-- X6 BrushStrokesModel.ahead(II)I
abbrev rX6_ahead : Room := { frames := 1, cells := 0, slots := 0, locals := 21 }
theorem cw_X6_ahead_X6_has_54 {p : Program} {s : State} {m : MethodId} {args : Array Value} {meth : Method} {c : Code} {g : kG} {A : Nat → Prop} (C : CT g p s m args meth c RX6 cX6_ahead 3 (some .int) wsX6_ahead A) : CallB rX6_ahead s args RX6 54 yX6_has cX6_has 2 (some .boolean) wsX6_has rX6_has 0 0 2 ∧ (Cond.static yX6_has).before args s = true := cwS 2 C.2.2.2.2.2.1 gX6_ahead_X6_has rfl rfl rfl (by decide +kernel) ⟨Nat.le_of_ble_eq_true rfl, Nat.le_of_ble_eq_true rfl⟩
noncomputable def bX6_ahead_4 (c1 : Int32) (x2 : Int32) : Option ((Int32) ⊕ (Int32)) := (fX6_has c1 x2).bind fun r4 => if r4 = 0 then (some (.inl (x2 + (-1)))) else (some (.inr x2))
noncomputable def lX6_ahead_4 (c1 : Int32) (x2 : Int32) : Option (Int32) := lp (bX6_ahead_4 c1) x2
theorem lX6_ahead_4_eq (c1 : Int32) (x2 : Int32) : lX6_ahead_4 c1 x2 = ((fX6_has c1 x2).bind fun r4 => if r4 = 0 then (some (.inl (x2 + (-1)))) else (some (.inr x2))).bind fun r => Sum.elim (fun z => lX6_ahead_4 c1 z) (fun r => some r) r := lp_eq (bX6_ahead_4 c1) x2
set_option maxRecDepth 100000 in
set_option maxHeartbeats 4000000 in
theorem tX6_ahead_4 {p : Program} {l : Launch} {e : Env} {s : State} {m : MethodId} {args : Array Value} {below : List Frame} {meth : Method} {c : Code} {g : kG} {A : Nat → Prop} {Q : State → Prop} (C : CT g p s m args meth c RX6 cX6_ahead 3 (some .int) wsX6_ahead A) (c1 : Int32) (y3 : Int32) (kk : ∀ (H : Heap) (locs : List Loc) (ls : Array Slot), ST g A s H locs ([]) → lv_has ls 3 [(2, .int y3)] → W p l e rX6_ahead s m args below meth c H locs 0 0 Q (F0 m 18 ls [])) : ∀ (n : Nat) (x2 : Int32), whl (bX6_ahead_4 c1) n x2 = some y3 → ∀ (H : Heap) (locs : List Loc) (ls : Array Slot), ST g A s H locs ([]) → lv_has ls 3 [(0, .int c1), (2, .int x2)] → W p l e rX6_ahead s m args below meth c H locs 0 0 Q (F0 m 4 ls []) := by
  have hx := C.1
  have hb := C.2.1
  intro n
  induction n with
  | zero =>
    intro x2 hm
    cases hm
  | succ n ih =>
    intro x2 hm H locs ls X hl
    rw [whl] at hm
    obtain ⟨q, hq, hm2⟩ := bnd hm
    clear hm
    have hm := hq
    clear hq
    rw [bX6_ahead_4] at hm
    refine lv_iload_n hx hb dX6_ahead_4 rfl (lv_at hl 0 rfl) ?_
    refine lv_iload_n hx hb dX6_ahead_5 rfl (lv_at hl 1 rfl) ?_
    obtain ⟨r4, hcl, hm⟩ := bnd hm
    refine kS0 C X (kX6_has l g c1 x2 r4 hcl) (cw_X6_ahead_X6_has_54 C) (As := [.int c1, .int x2]) rfl hl (rest := []) rfl (Nat.le_of_ble_eq_true rfl) (st2 := [.int r4]) rfl dX6_ahead_6 ⟨Nat.le_of_ble_eq_true rfl, Nat.le_of_ble_eq_true rfl⟩ (fun H locs X => ?_)
    clear hcl
    refine lv_if_ne (tgt := 18) hx hb dX6_ahead_9 (by decide) (fun hc => ?_) (fun hc => ?_)
    · have hm := ifn hc hm
      cases sm hm
      cases sm hm2
      exact kk _ _ _ X (lv_sub hl [1] rfl)
    · have hm := ifp hc hm
      refine lv_iinc (v := x2 + (-1)) (lv' := [(2, .int (x2 + (-1))), (0, .int c1)]) hx hb dX6_ahead_12 hl (k := 1) rfl rfl (by decide) rfl (fun ls hl => ?_)
      refine lv_goto (tgt := 4) hx hb dX6_ahead_15 (by decide) ?_
      cases sm hm
      exact ih _ hm2 _ _ _ X (lv_sub hl [1, 0] rfl)
noncomputable def fX6_ahead (p1 : Int32) (p2 : Int32) : Option (Int32) := (lX6_ahead_4 p1 (p2 - 1)).bind fun y5 => some y5
set_option maxRecDepth 100000 in
set_option maxHeartbeats 4000000 in
theorem kX6_ahead (l : Launch) (g : kG) (p1 : Int32) (p2 : Int32) (o1 : Int32) (hm : fX6_ahead p1 p2 = some o1) : KM l yX6_ahead wsX6_ahead rX6_ahead g [.int p1, .int p2] ([]) (some (.int o1)) ([]) 0 0 := by
  refine KM.of (nL := 3) (by decide) rfl (Nat.le_of_ble_eq_true rfl) ?_
  intro p e s m args below meth c A ls C X hl
  have C : CT g p s m args meth c RX6 cX6_ahead 3 (some .int) wsX6_ahead A := C
  have hx := C.1
  have hb := C.2.1
  have hl : lv_has ls 3 [(0, .int p1), (1, .int p2)] := hl
  rw [fX6_ahead] at hm
  refine lv_iload_n hx hb dX6_ahead_0 rfl (lv_at hl 1 rfl) ?_
  refine lv_iconst (v := 1) hx hb dX6_ahead_1 (by decide) ?_
  refine lv_isub hx hb dX6_ahead_2 ?_
  refine lv_istore_n (lv' := [(2, .int (p2 - 1)), (0, .int p1), (1, .int p2)]) hx hb dX6_ahead_3 rfl hl (by decide) rfl (fun ls hl => ?_)
  obtain ⟨y5, hL, hm⟩ := bnd hm
  obtain ⟨nn, hn⟩ := lp_run hL
  refine tX6_ahead_4 C p1 y5 (fun H locs ls X hl => ?_) nn _ hn _ _ _ X (lv_sub hl [1, 0] rfl)
  clear hL hn
  refine lv_iload_n hx hb dX6_ahead_18 rfl (lv_at hl 0 rfl) ?_
  cases sm hm
  exact kiret C X dX6_ahead_19
-- X6 BrushStrokesModel.root(J)I
abbrev rX6_root : Room := { frames := 0, cells := 0, slots := 0, locals := 0 }
noncomputable def bX6_root_5 (c1 : Int64) : Int32 × Int32 → Option ((Int32 × Int32) ⊕ (Int32))
  | (x2, x3) => if x3 ≤ 0 then (some (.inr x2)) else (((if c1 < (((x2 + x3).toInt64) * ((x2 + x3).toInt64)) then (some 0) else (some x3)) : Option (Int32)).bind fun v5 => some (.inl (x2 + v5, x3 >>> (1 &&& 31))))
noncomputable def lX6_root_5 (c1 : Int64) (x2 : Int32) (x3 : Int32) : Option (Int32) := lp (bX6_root_5 c1) (x2, x3)
theorem lX6_root_5_eq (c1 : Int64) (x2 : Int32) (x3 : Int32) : lX6_root_5 c1 x2 x3 = (if x3 ≤ 0 then (some (.inr x2)) else (((if c1 < (((x2 + x3).toInt64) * ((x2 + x3).toInt64)) then (some 0) else (some x3)) : Option (Int32)).bind fun v5 => some (.inl (x2 + v5, x3 >>> (1 &&& 31))))).bind fun r => Sum.elim (fun z => lX6_root_5 c1 z.1 z.2) (fun r => some r) r := lp_eq (bX6_root_5 c1) (x2, x3)
set_option maxRecDepth 100000 in
set_option maxHeartbeats 4000000 in
theorem tX6_root_5 {p : Program} {l : Launch} {e : Env} {s : State} {m : MethodId} {args : Array Value} {below : List Frame} {meth : Method} {c : Code} {g : kG} {A : Nat → Prop} {Q : State → Prop} (C : CT g p s m args meth c RX6 cX6_root 6 (some .int) wsX6_root A) (c1 : Int64) (y4 : Int32) (kk : ∀ (H : Heap) (locs : List Loc) (ls : Array Slot), ST g A s H locs ([]) → lv_has ls 6 [(2, .int y4)] → W p l e rX6_root s m args below meth c H locs 0 0 Q (F0 m 40 ls [])) : ∀ (n : Nat) (x2 : Int32) (x3 : Int32), whl (bX6_root_5 c1) n (x2, x3) = some y4 → ∀ (H : Heap) (locs : List Loc) (ls : Array Slot), ST g A s H locs ([]) → lv_has ls 6 [(0, .long c1), (2, .int x2), (3, .int x3)] → W p l e rX6_root s m args below meth c H locs 0 0 Q (F0 m 5 ls []) := by
  have hx := C.1
  have hb := C.2.1
  intro n
  induction n with
  | zero =>
    intro x2 x3 hm
    cases hm
  | succ n ih =>
    intro x2 x3 hm H locs ls X hl
    rw [whl] at hm
    obtain ⟨q, hq, hm2⟩ := bnd hm
    clear hm
    have hm := hq
    clear hq
    rw [bX6_root_5] at hm
    refine lv_iload_n hx hb dX6_root_5 rfl (lv_at hl 2 rfl) ?_
    refine lv_if_le (tgt := 40) hx hb dX6_root_6 (by decide) (fun hc => ?_) (fun hc => ?_)
    · have hm := ifp hc hm
      cases sm hm
      cases sm hm2
      exact kk _ _ _ X (lv_sub hl [1] rfl)
    · have hm := ifn hc hm
      refine lv_iload_n hx hb dX6_root_9 rfl (lv_at hl 1 rfl) ?_
      refine lv_iload_n hx hb dX6_root_10 rfl (lv_at hl 2 rfl) ?_
      refine lv_iadd hx hb dX6_root_11 ?_
      refine lv_i2l (v := (x2 + x3).toInt64) hx hb dX6_root_12 rfl ?_
      refine lv_lstore (lv' := [(4, .long ((x2 + x3).toInt64)), (0, .long c1), (2, .int x2), (3, .int x3)]) hx hb dX6_root_13 hl (by decide) rfl (fun ls hl => ?_)
      refine lv_iload_n hx hb dX6_root_15 rfl (lv_at hl 2 rfl) ?_
      refine lv_lload hx hb dX6_root_16 (lv_at hl 0 rfl) ?_
      refine lv_lload hx hb dX6_root_18 (lv_at hl 0 rfl) ?_
      refine lv_lmul hx hb dX6_root_20 ?_
      refine lv_lload_n hx hb dX6_root_21 rfl (lv_at hl 1 rfl) ?_
      obtain ⟨v5, hE, hm⟩ := bnd hm
      have K : ∀ (H : Heap) (locs : List Loc) (ls : Array Slot), ST g A s H locs ([]) → lv_has ls 6 [(0, .long c1), (3, .int x3)] → W p l e rX6_root s m args below meth c H locs 0 0 Q (F0 m 31 ls [.int v5, .int x2]) := by
        intro H locs ls X hl
        clear hE
        refine lv_iadd hx hb dX6_root_31 ?_
        refine lv_istore_n (lv' := [(2, .int (x2 + v5)), (0, .long c1), (3, .int x3)]) hx hb dX6_root_32 rfl hl (by decide) rfl (fun ls hl => ?_)
        refine lv_iload_n hx hb dX6_root_33 rfl (lv_at hl 2 rfl) ?_
        refine lv_iconst (v := 1) hx hb dX6_root_34 (by decide) ?_
        refine lv_ishr hx hb dX6_root_35 ?_
        refine lv_istore_n (lv' := [(3, .int (x3 >>> (1 &&& 31))), (2, .int (x2 + v5)), (0, .long c1)]) hx hb dX6_root_36 rfl hl (by decide) rfl (fun ls hl => ?_)
        refine lv_goto (tgt := 5) hx hb dX6_root_37 (by decide) ?_
        cases sm hm
        exact ih _ _ hm2 _ _ _ X (lv_sub hl [2, 1, 0] rfl)
      clear hm
      have hm := hE
      clear hE
      refine klcmp_gt (tgt := 30) hx hb dX6_root_22 dX6_root_23 (by decide) (fun hc => ?_) (fun hc => ?_)
      · have hm := ifp hc hm
        refine lv_iconst (v := 0) hx hb dX6_root_30 (by decide) ?_
        cases sm hm
        exact K _ _ _ X (lv_sub hl [1, 3] rfl)
      · have hm := ifn hc hm
        refine lv_iload_n hx hb dX6_root_26 rfl (lv_at hl 3 rfl) ?_
        refine lv_goto (tgt := 31) hx hb dX6_root_27 (by decide) ?_
        cases sm hm
        exact K _ _ _ X (lv_sub hl [1, 3] rfl)
noncomputable def fX6_root (p1 : Int64) : Option (Int32) := (lX6_root_5 p1 0 1048576).bind fun y6 => some y6
set_option maxRecDepth 100000 in
set_option maxHeartbeats 4000000 in
theorem kX6_root (l : Launch) (g : kG) (p1 : Int64) (o1 : Int32) (hm : fX6_root p1 = some o1) : KM l yX6_root wsX6_root rX6_root g [.long p1] ([]) (some (.int o1)) ([]) 0 0 := by
  refine KM.of (nL := 6) (by decide) rfl (Nat.le_of_ble_eq_true rfl) ?_
  intro p e s m args below meth c A ls C X hl
  have C : CT g p s m args meth c RX6 cX6_root 6 (some .int) wsX6_root A := C
  have hx := C.1
  have hb := C.2.1
  have hl : lv_has ls 6 [(0, .long p1)] := hl
  rw [fX6_root] at hm
  refine lv_iconst (v := 0) hx hb dX6_root_0 (by decide) ?_
  refine lv_istore_n (lv' := [(2, .int 0), (0, .long p1)]) hx hb dX6_root_1 rfl hl (by decide) rfl (fun ls hl => ?_)
  refine lv_ldc (v := 1048576) hx hb C.2.2.2.2.1 (C.2.2.2.2.2.1 (.constant RX6 58 1048576) (by decide +kernel)) dX6_root_2 ?_
  refine lv_istore_n (lv' := [(3, .int 1048576), (2, .int 0), (0, .long p1)]) hx hb dX6_root_4 rfl hl (by decide) rfl (fun ls hl => ?_)
  obtain ⟨y6, hL, hm⟩ := bnd hm
  obtain ⟨nn, hn⟩ := lp_run hL
  refine tX6_root_5 C p1 y6 (fun H locs ls X hl => ?_) nn _ _ hn _ _ _ X (lv_sub hl [2, 1, 0] rfl)
  clear hL hn
  refine lv_iload_n hx hb dX6_root_40 rfl (lv_at hl 0 rfl) ?_
  cases sm hm
  exact kiret C X dX6_root_41
-- X6 BrushStrokesModel.record()V
abbrev rX6_record : Room := { frames := 0, cells := 0, slots := 0, locals := 0 }
theorem fl_X6_record_13 : (Cond.fieldLink RX6 13 "BrushStrokesModel" "saved" "[I") ∈ wsX6_record := by decide +kernel
theorem fl_X6_record_59 : (Cond.fieldLink RX6 59 "BrushStrokesModel" "saves" "I") ∈ wsX6_record := by decide +kernel
theorem fl_X6_record_7 : (Cond.fieldLink RX6 7 "BrushStrokesModel" "z" "[I") ∈ wsX6_record := by decide +kernel
theorem in_X6_record_X6 : ∀ w ∈ u_ws RX6 TX6 16, w ∈ wsX6_record := by decide +kernel
noncomputable def bX6_record_11 : Int32 × MS → Option ((Int32 × MS) ⊕ (MS))
  | (x8, u9) => if 1515 ≤ x8 then (some (.inr u9)) else (gd (inb (303 + x8) 1818) (gd (inb x8 1818) (lt (M_s_saved u9 (upd (M_saved u9) x8.toNatClampNeg (M_saved u9 (303 + x8).toNatClampNeg))) fun u11 => some (.inl (x8 + 1, u11)))))
noncomputable def lX6_record_11 (x8 : Int32) (u9 : MS) : Option (MS) := lp bX6_record_11 (x8, u9)
theorem lX6_record_11_eq (x8 : Int32) (u9 : MS) : lX6_record_11 x8 u9 = (if 1515 ≤ x8 then (some (.inr u9)) else (gd (inb (303 + x8) 1818) (gd (inb x8 1818) (lt (M_s_saved u9 (upd (M_saved u9) x8.toNatClampNeg (M_saved u9 (303 + x8).toNatClampNeg))) fun u11 => some (.inl (x8 + 1, u11)))))).bind fun r => Sum.elim (fun z => lX6_record_11 z.1 z.2) (fun r => some r) r := lp_eq bX6_record_11 (x8, u9)
set_option maxRecDepth 100000 in
set_option maxHeartbeats 4000000 in
theorem tX6_record_11 {p : Program} {l : Launch} {e : Env} {s : State} {m : MethodId} {args : Array Value} {below : List Frame} {meth : Method} {c : Code} {g : kG} {A : Nat → Prop} {Q : State → Prop} (a : Nat → Nat) (C : CT g p s m args meth c RX6 cX6_record 2 none wsX6_record A) (u10 : MS) (kk : ∀ (H : Heap) (locs : List Loc) (ls : Array Slot), ST g A s H locs (wM g a u10) → lv_has ls 2 [(0, .ref (a 0))] → W p l e rX6_record s m args below meth c H locs 0 0 Q (F0 m 40 ls [])) : ∀ (n : Nat) (x8 : Int32) (u9 : MS), whl bX6_record_11 n (x8, u9) = some u10 → ∀ (H : Heap) (locs : List Loc) (ls : Array Slot), ST g A s H locs (wM g a u9) → lv_has ls 2 [(0, .ref (a 0)), (1, .int x8)] → W p l e rX6_record s m args below meth c H locs 0 0 Q (F0 m 11 ls []) := by
  have hx := C.1
  have hb := C.2.1
  have hinX6 := in_X6_record_X6
  have hf13 := C.2.2.2.2.2.1 _ fl_X6_record_13
  intro n
  induction n with
  | zero =>
    intro x8 u9 hm
    cases hm
  | succ n ih =>
    intro x8 u9 hm H locs ls X hl
    rw [whl] at hm
    obtain ⟨q, hq, hm2⟩ := bnd hm
    clear hm
    have hm := hq
    clear hq
    rw [bX6_record_11] at hm
    refine lv_iload_n hx hb dX6_record_11 rfl (lv_at hl 1 rfl) ?_
    refine lv_sipush (v := 1515) hx hb dX6_record_12 (by decide) ?_
    refine lv_icmp_ge (tgt := 40) hx hb dX6_record_15 (by decide) (fun hc => ?_) (fun hc => ?_)
    · have hm := ifp hc hm
      cases sm hm
      cases sm hm2
      exact kk _ _ _ X (lv_sub hl [0] rfl)
    · have hm := ifn hc hm
      refine lv_aload_n hx hb dX6_record_18 rfl (lv_at hl 0 rfl) ?_
      refine kget C X 0 (ci := 6) rfl rfl hinX6 2 (by decide) hf13 (v := .ref (a 2)) rfl dX6_record_19 ?_
      refine lv_iload_n hx hb dX6_record_22 rfl (lv_at hl 1 rfl) ?_
      refine lv_aload_n hx hb dX6_record_23 rfl (lv_at hl 0 rfl) ?_
      refine kget C X 0 (ci := 6) rfl rfl hinX6 2 (by decide) hf13 (v := .ref (a 2)) rfl dX6_record_24 ?_
      refine lv_sipush (v := 303) hx hb dX6_record_27 (by decide) ?_
      refine lv_iload_n hx hb dX6_record_30 rfl (lv_at hl 1 rfl) ?_
      refine lv_iadd hx hb dX6_record_31 ?_
      obtain ⟨hgi, hm⟩ := gd_t hm
      refine kiald C X 2 rfl hgi dX6_record_32 ?_
      obtain ⟨hgi, hm⟩ := gd_t hm
      obtain ⟨u11, eu⟩ : ∃ z, z = M_s_saved u9 (upd (M_saved u9) x8.toNatClampNeg (M_saved u9 (303 + x8).toNatClampNeg)) := ⟨_, rfl⟩
      have hm := lt_t eu hm
      refine kiast C X 2 rfl hgi (w2 := wM g a u11) (by subst eu; rfl) dX6_record_33 (fun H locs X => ?_)
      clear eu
      refine lv_iinc (v := x8 + 1) (lv' := [(1, .int (x8 + 1)), (0, .ref (a 0))]) hx hb dX6_record_34 hl (k := 1) rfl rfl (by decide) rfl (fun ls hl => ?_)
      refine lv_goto (tgt := 11) hx hb dX6_record_37 (by decide) ?_
      cases sm hm
      exact ih _ _ hm2 _ _ _ X (lv_sub hl [1, 0] rfl)
noncomputable def bX6_record_52 : Int32 × MS → Option ((Int32 × MS) ⊕ (MS))
  | (x14, u15) => if 303 ≤ x14 then (some (.inr u15)) else (gd (inb x14 303) (gd (inb ((303 * (M_saves u15)) + x14) 1818) (lt (M_s_saved u15 (upd (M_saved u15) ((303 * (M_saves u15)) + x14).toNatClampNeg (M_z u15 x14.toNatClampNeg))) fun u17 => some (.inl (x14 + 1, u17)))))
noncomputable def lX6_record_52 (x14 : Int32) (u15 : MS) : Option (MS) := lp bX6_record_52 (x14, u15)
theorem lX6_record_52_eq (x14 : Int32) (u15 : MS) : lX6_record_52 x14 u15 = (if 303 ≤ x14 then (some (.inr u15)) else (gd (inb x14 303) (gd (inb ((303 * (M_saves u15)) + x14) 1818) (lt (M_s_saved u15 (upd (M_saved u15) ((303 * (M_saves u15)) + x14).toNatClampNeg (M_z u15 x14.toNatClampNeg))) fun u17 => some (.inl (x14 + 1, u17)))))).bind fun r => Sum.elim (fun z => lX6_record_52 z.1 z.2) (fun r => some r) r := lp_eq bX6_record_52 (x14, u15)
set_option maxRecDepth 100000 in
set_option maxHeartbeats 4000000 in
theorem tX6_record_52 {p : Program} {l : Launch} {e : Env} {s : State} {m : MethodId} {args : Array Value} {below : List Frame} {meth : Method} {c : Code} {g : kG} {A : Nat → Prop} {Q : State → Prop} (a : Nat → Nat) (C : CT g p s m args meth c RX6 cX6_record 2 none wsX6_record A) (u16 : MS) (kk : ∀ (H : Heap) (locs : List Loc) (ls : Array Slot), ST g A s H locs (wM g a u16) → lv_has ls 2 [(0, .ref (a 0))] → W p l e rX6_record s m args below meth c H locs 0 0 Q (F0 m 86 ls [])) : ∀ (n : Nat) (x14 : Int32) (u15 : MS), whl bX6_record_52 n (x14, u15) = some u16 → ∀ (H : Heap) (locs : List Loc) (ls : Array Slot), ST g A s H locs (wM g a u15) → lv_has ls 2 [(0, .ref (a 0)), (1, .int x14)] → W p l e rX6_record s m args below meth c H locs 0 0 Q (F0 m 52 ls []) := by
  have hx := C.1
  have hb := C.2.1
  have hinX6 := in_X6_record_X6
  have hf7 := C.2.2.2.2.2.1 _ fl_X6_record_7
  have hf13 := C.2.2.2.2.2.1 _ fl_X6_record_13
  have hf59 := C.2.2.2.2.2.1 _ fl_X6_record_59
  intro n
  induction n with
  | zero =>
    intro x14 u15 hm
    cases hm
  | succ n ih =>
    intro x14 u15 hm H locs ls X hl
    rw [whl] at hm
    obtain ⟨q, hq, hm2⟩ := bnd hm
    clear hm
    have hm := hq
    clear hq
    rw [bX6_record_52] at hm
    refine lv_iload_n hx hb dX6_record_52 rfl (lv_at hl 1 rfl) ?_
    refine lv_sipush (v := 303) hx hb dX6_record_53 (by decide) ?_
    refine lv_icmp_ge (tgt := 86) hx hb dX6_record_56 (by decide) (fun hc => ?_) (fun hc => ?_)
    · have hm := ifp hc hm
      cases sm hm
      cases sm hm2
      exact kk _ _ _ X (lv_sub hl [0] rfl)
    · have hm := ifn hc hm
      refine lv_aload_n hx hb dX6_record_59 rfl (lv_at hl 0 rfl) ?_
      refine kget C X 0 (ci := 6) rfl rfl hinX6 2 (by decide) hf13 (v := .ref (a 2)) rfl dX6_record_60 ?_
      refine lv_sipush (v := 303) hx hb dX6_record_63 (by decide) ?_
      refine lv_aload_n hx hb dX6_record_66 rfl (lv_at hl 0 rfl) ?_
      refine kget C X 0 (ci := 6) rfl rfl hinX6 3 (by decide) hf59 (v := .int (M_saves u15)) rfl dX6_record_67 ?_
      refine lv_imul hx hb dX6_record_70 ?_
      refine lv_iload_n hx hb dX6_record_71 rfl (lv_at hl 1 rfl) ?_
      refine lv_iadd hx hb dX6_record_72 ?_
      refine lv_aload_n hx hb dX6_record_73 rfl (lv_at hl 0 rfl) ?_
      refine kget C X 0 (ci := 6) rfl rfl hinX6 1 (by decide) hf7 (v := .ref (a 1)) rfl dX6_record_74 ?_
      refine lv_iload_n hx hb dX6_record_77 rfl (lv_at hl 1 rfl) ?_
      obtain ⟨hgi, hm⟩ := gd_t hm
      refine kiald C X 1 rfl hgi dX6_record_78 ?_
      obtain ⟨hgi, hm⟩ := gd_t hm
      obtain ⟨u17, eu⟩ : ∃ z, z = M_s_saved u15 (upd (M_saved u15) ((303 * (M_saves u15)) + x14).toNatClampNeg (M_z u15 x14.toNatClampNeg)) := ⟨_, rfl⟩
      have hm := lt_t eu hm
      refine kiast C X 2 rfl hgi (w2 := wM g a u17) (by subst eu; rfl) dX6_record_79 (fun H locs X => ?_)
      clear eu
      refine lv_iinc (v := x14 + 1) (lv' := [(1, .int (x14 + 1)), (0, .ref (a 0))]) hx hb dX6_record_80 hl (k := 1) rfl rfl (by decide) rfl (fun ls hl => ?_)
      refine lv_goto (tgt := 52) hx hb dX6_record_83 (by decide) ?_
      cases sm hm
      exact ih _ _ hm2 _ _ _ X (lv_sub hl [1, 0] rfl)
noncomputable def fX6_record (u : MS) : Option (MS) := ((if (M_saves u) = 6 then ((lX6_record_11 0 u).bind fun u12 => lt (M_s_saves u12 ((M_saves u12) - 1)) fun u13 => some u13) else (some u)) : Option (MS)).bind fun u7 => (lX6_record_52 0 u7).bind fun u18 => lt (M_s_saves u18 ((M_saves u18) + 1)) fun u19 => some u19
set_option maxRecDepth 100000 in
set_option maxHeartbeats 4000000 in
theorem kX6_record (l : Launch) (g : kG) (a : Nat → Nat) (u : MS) (o1 : MS) (hm : fX6_record u = some o1) : KM l yX6_record wsX6_record rX6_record g [.ref (a 0)] (wM g a u) none (wM g a o1) 0 0 := by
  refine KM.of (nL := 2) (by decide) rfl (Nat.le_of_ble_eq_true rfl) ?_
  intro p e s m args below meth c A ls C X hl
  have C : CT g p s m args meth c RX6 cX6_record 2 none wsX6_record A := C
  have hx := C.1
  have hb := C.2.1
  have hl : lv_has ls 2 [(0, .ref (a 0))] := hl
  have hinX6 := in_X6_record_X6
  have hf59 := C.2.2.2.2.2.1 _ fl_X6_record_59
  rw [fX6_record] at hm
  refine lv_aload_n hx hb dX6_record_0 rfl (lv_at hl 0 rfl) ?_
  refine kget C X 0 (ci := 6) rfl rfl hinX6 3 (by decide) hf59 (v := .int (M_saves u)) rfl dX6_record_1 ?_
  refine lv_bipush (v := 6) hx hb dX6_record_4 (by decide) ?_
  obtain ⟨u7, hE, hm⟩ := bnd hm
  have K : ∀ (H : Heap) (locs : List Loc) (ls : Array Slot), ST g A s H locs (wM g a u7) → lv_has ls 2 [(0, .ref (a 0))] → W p l e rX6_record s m args below meth c H locs 0 0 (kEnd g below args s none (wM g a o1) A 0 0) (F0 m 50 ls []) := by
    intro H locs ls X hl
    clear hE
    refine lv_iconst (v := 0) hx hb dX6_record_50 (by decide) ?_
    refine lv_istore_n (lv' := [(1, .int 0), (0, .ref (a 0))]) hx hb dX6_record_51 rfl hl (by decide) rfl (fun ls hl => ?_)
    obtain ⟨u18, hL, hm⟩ := bnd hm
    obtain ⟨nn, hn⟩ := lp_run hL
    refine tX6_record_52 a C  u18 (fun H locs ls X hl => ?_) nn _ _ hn _ _ _ X (lv_sub hl [1, 0] rfl)
    clear hL hn
    refine lv_aload_n hx hb dX6_record_86 rfl (lv_at hl 0 rfl) ?_
    refine lv_dup hx hb dX6_record_87 rfl ?_
    refine kget C X 0 (ci := 6) rfl rfl hinX6 3 (by decide) hf59 (v := .int (M_saves u18)) rfl dX6_record_88 ?_
    refine lv_iconst (v := 1) hx hb dX6_record_91 (by decide) ?_
    refine lv_iadd hx hb dX6_record_92 ?_
    obtain ⟨u19, eu⟩ : ∃ z, z = M_s_saves u18 ((M_saves u18) + 1) := ⟨_, rfl⟩
    have hm := lt_t eu hm
    refine kput C X 0 (ci := 6) rfl rfl hinX6 tyX6_ok nmX6 3 (by decide) hf59 rfl (ty := .int) (v := .int ((M_saves u18) + 1)) rfl rfl rfl (Nat.le_of_ble_eq_true rfl) (w2 := wM g a u19) (by subst eu; rfl) dX6_record_93 (fun H locs X => ?_)
    clear eu
    cases sm hm
    exact kvret C X dX6_record_96
  clear hm
  have hm := hE
  clear hE
  refine lv_icmp_ne (tgt := 50) hx hb dX6_record_6 (by decide) (fun hc => ?_) (fun hc => ?_)
  · have hm := ifn hc hm
    cases sm hm
    exact K _ _ _ X (lv_sub hl [0] rfl)
  · have hm := ifp hc hm
    refine lv_iconst (v := 0) hx hb dX6_record_9 (by decide) ?_
    refine lv_istore_n (lv' := [(1, .int 0), (0, .ref (a 0))]) hx hb dX6_record_10 rfl hl (by decide) rfl (fun ls hl => ?_)
    obtain ⟨u12, hL, hm⟩ := bnd hm
    obtain ⟨nn, hn⟩ := lp_run hL
    refine tX6_record_11 a C  u12 (fun H locs ls X hl => ?_) nn _ _ hn _ _ _ X (lv_sub hl [1, 0] rfl)
    clear hL hn
    refine lv_aload_n hx hb dX6_record_40 rfl (lv_at hl 0 rfl) ?_
    refine lv_dup hx hb dX6_record_41 rfl ?_
    refine kget C X 0 (ci := 6) rfl rfl hinX6 3 (by decide) hf59 (v := .int (M_saves u12)) rfl dX6_record_42 ?_
    refine lv_iconst (v := 1) hx hb dX6_record_45 (by decide) ?_
    refine lv_isub hx hb dX6_record_46 ?_
    obtain ⟨u13, eu⟩ : ∃ z, z = M_s_saves u12 ((M_saves u12) - 1) := ⟨_, rfl⟩
    have hm := lt_t eu hm
    refine kput C X 0 (ci := 6) rfl rfl hinX6 tyX6_ok nmX6 3 (by decide) hf59 rfl (ty := .int) (v := .int ((M_saves u12) - 1)) rfl rfl rfl (Nat.le_of_ble_eq_true rfl) (w2 := wM g a u13) (by subst eu; rfl) dX6_record_47 (fun H locs X => ?_)
    clear eu
    cases sm hm
    exact K _ _ _ X (lv_sub hl [0] rfl)
-- X6 BrushStrokesModel.undo()I
abbrev rX6_undo : Room := { frames := 0, cells := 0, slots := 0, locals := 0 }
theorem fl_X6_undo_35 : (Cond.fieldLink RX6 35 "BrushStrokesModel" "thrown" "I") ∈ wsX6_undo := by decide +kernel
theorem fl_X6_undo_13 : (Cond.fieldLink RX6 13 "BrushStrokesModel" "saved" "[I") ∈ wsX6_undo := by decide +kernel
theorem fl_X6_undo_59 : (Cond.fieldLink RX6 59 "BrushStrokesModel" "saves" "I") ∈ wsX6_undo := by decide +kernel
theorem fl_X6_undo_7 : (Cond.fieldLink RX6 7 "BrushStrokesModel" "z" "[I") ∈ wsX6_undo := by decide +kernel
theorem in_X6_undo_X6 : ∀ w ∈ u_ws RX6 TX6 16, w ∈ wsX6_undo := by decide +kernel
noncomputable def bX6_undo_37 : Int32 × MS → Option ((Int32 × MS) ⊕ (MS))
  | (x4, u5) => if 303 ≤ x4 then (some (.inr u5)) else (gd (inb ((303 * (M_saves u5)) + x4) 1818) (gd (inb x4 303) (lt (M_s_z u5 (upd (M_z u5) x4.toNatClampNeg (M_saved u5 ((303 * (M_saves u5)) + x4).toNatClampNeg))) fun u7 => some (.inl (x4 + 1, u7)))))
noncomputable def lX6_undo_37 (x4 : Int32) (u5 : MS) : Option (MS) := lp bX6_undo_37 (x4, u5)
theorem lX6_undo_37_eq (x4 : Int32) (u5 : MS) : lX6_undo_37 x4 u5 = (if 303 ≤ x4 then (some (.inr u5)) else (gd (inb ((303 * (M_saves u5)) + x4) 1818) (gd (inb x4 303) (lt (M_s_z u5 (upd (M_z u5) x4.toNatClampNeg (M_saved u5 ((303 * (M_saves u5)) + x4).toNatClampNeg))) fun u7 => some (.inl (x4 + 1, u7)))))).bind fun r => Sum.elim (fun z => lX6_undo_37 z.1 z.2) (fun r => some r) r := lp_eq bX6_undo_37 (x4, u5)
set_option maxRecDepth 100000 in
set_option maxHeartbeats 4000000 in
theorem tX6_undo_37 {p : Program} {l : Launch} {e : Env} {s : State} {m : MethodId} {args : Array Value} {below : List Frame} {meth : Method} {c : Code} {g : kG} {A : Nat → Prop} {Q : State → Prop} (a : Nat → Nat) (C : CT g p s m args meth c RX6 cX6_undo 2 (some .int) wsX6_undo A) (u6 : MS) (kk : ∀ (H : Heap) (locs : List Loc) (ls : Array Slot), ST g A s H locs (wM g a u6) → lv_has ls 2 [(0, .ref (a 0))] → W p l e rX6_undo s m args below meth c H locs 0 0 Q (F0 m 71 ls [])) : ∀ (n : Nat) (x4 : Int32) (u5 : MS), whl bX6_undo_37 n (x4, u5) = some u6 → ∀ (H : Heap) (locs : List Loc) (ls : Array Slot), ST g A s H locs (wM g a u5) → lv_has ls 2 [(0, .ref (a 0)), (1, .int x4)] → W p l e rX6_undo s m args below meth c H locs 0 0 Q (F0 m 37 ls []) := by
  have hx := C.1
  have hb := C.2.1
  have hinX6 := in_X6_undo_X6
  have hf7 := C.2.2.2.2.2.1 _ fl_X6_undo_7
  have hf13 := C.2.2.2.2.2.1 _ fl_X6_undo_13
  have hf59 := C.2.2.2.2.2.1 _ fl_X6_undo_59
  intro n
  induction n with
  | zero =>
    intro x4 u5 hm
    cases hm
  | succ n ih =>
    intro x4 u5 hm H locs ls X hl
    rw [whl] at hm
    obtain ⟨q, hq, hm2⟩ := bnd hm
    clear hm
    have hm := hq
    clear hq
    rw [bX6_undo_37] at hm
    refine lv_iload_n hx hb dX6_undo_37 rfl (lv_at hl 1 rfl) ?_
    refine lv_sipush (v := 303) hx hb dX6_undo_38 (by decide) ?_
    refine lv_icmp_ge (tgt := 71) hx hb dX6_undo_41 (by decide) (fun hc => ?_) (fun hc => ?_)
    · have hm := ifp hc hm
      cases sm hm
      cases sm hm2
      exact kk _ _ _ X (lv_sub hl [0] rfl)
    · have hm := ifn hc hm
      refine lv_aload_n hx hb dX6_undo_44 rfl (lv_at hl 0 rfl) ?_
      refine kget C X 0 (ci := 6) rfl rfl hinX6 1 (by decide) hf7 (v := .ref (a 1)) rfl dX6_undo_45 ?_
      refine lv_iload_n hx hb dX6_undo_48 rfl (lv_at hl 1 rfl) ?_
      refine lv_aload_n hx hb dX6_undo_49 rfl (lv_at hl 0 rfl) ?_
      refine kget C X 0 (ci := 6) rfl rfl hinX6 2 (by decide) hf13 (v := .ref (a 2)) rfl dX6_undo_50 ?_
      refine lv_sipush (v := 303) hx hb dX6_undo_53 (by decide) ?_
      refine lv_aload_n hx hb dX6_undo_56 rfl (lv_at hl 0 rfl) ?_
      refine kget C X 0 (ci := 6) rfl rfl hinX6 3 (by decide) hf59 (v := .int (M_saves u5)) rfl dX6_undo_57 ?_
      refine lv_imul hx hb dX6_undo_60 ?_
      refine lv_iload_n hx hb dX6_undo_61 rfl (lv_at hl 1 rfl) ?_
      refine lv_iadd hx hb dX6_undo_62 ?_
      obtain ⟨hgi, hm⟩ := gd_t hm
      refine kiald C X 2 rfl hgi dX6_undo_63 ?_
      obtain ⟨hgi, hm⟩ := gd_t hm
      obtain ⟨u7, eu⟩ : ∃ z, z = M_s_z u5 (upd (M_z u5) x4.toNatClampNeg (M_saved u5 ((303 * (M_saves u5)) + x4).toNatClampNeg)) := ⟨_, rfl⟩
      have hm := lt_t eu hm
      refine kiast C X 1 rfl hgi (w2 := wM g a u7) (by subst eu; rfl) dX6_undo_64 (fun H locs X => ?_)
      clear eu
      refine lv_iinc (v := x4 + 1) (lv' := [(1, .int (x4 + 1)), (0, .ref (a 0))]) hx hb dX6_undo_65 hl (k := 1) rfl rfl (by decide) rfl (fun ls hl => ?_)
      refine lv_goto (tgt := 37) hx hb dX6_undo_68 (by decide) ?_
      cases sm hm
      exact ih _ _ hm2 _ _ _ X (lv_sub hl [1, 0] rfl)
noncomputable def fX6_undo (u : MS) : Option (Int32 × MS) := ((if (M_saves u) = 0 then (some 1) else (some 0)) : Option (Int32)).bind fun v1 => lt (M_s_thrown u v1) fun u2 => if (M_thrown u2) ≤ 0 then (lt (M_s_saves u2 ((M_saves u2) - 1)) fun u3 => (lX6_undo_37 0 u3).bind fun u8 => some (M_saves u8, u8)) else (some (0, u2))
set_option maxRecDepth 100000 in
set_option maxHeartbeats 4000000 in
theorem kX6_undo (l : Launch) (g : kG) (a : Nat → Nat) (u : MS) (o1 : Int32) (o2 : MS) (hm : fX6_undo u = some (o1, o2)) : KM l yX6_undo wsX6_undo rX6_undo g [.ref (a 0)] (wM g a u) (some (.int o1)) (wM g a o2) 0 0 := by
  refine KM.of (nL := 2) (by decide) rfl (Nat.le_of_ble_eq_true rfl) ?_
  intro p e s m args below meth c A ls C X hl
  have C : CT g p s m args meth c RX6 cX6_undo 2 (some .int) wsX6_undo A := C
  have hx := C.1
  have hb := C.2.1
  have hl : lv_has ls 2 [(0, .ref (a 0))] := hl
  have hinX6 := in_X6_undo_X6
  have hf35 := C.2.2.2.2.2.1 _ fl_X6_undo_35
  have hf59 := C.2.2.2.2.2.1 _ fl_X6_undo_59
  rw [fX6_undo] at hm
  refine lv_aload_n hx hb dX6_undo_0 rfl (lv_at hl 0 rfl) ?_
  refine lv_aload_n hx hb dX6_undo_1 rfl (lv_at hl 0 rfl) ?_
  refine kget C X 0 (ci := 6) rfl rfl hinX6 3 (by decide) hf59 (v := .int (M_saves u)) rfl dX6_undo_2 ?_
  obtain ⟨v1, hE, hm⟩ := bnd hm
  have K : ∀ (H : Heap) (locs : List Loc) (ls : Array Slot), ST g A s H locs (wM g a u) → lv_has ls 2 [(0, .ref (a 0))] → W p l e rX6_undo s m args below meth c H locs 0 0 (kEnd g below args s (some (.int o1)) (wM g a o2) A 0 0) (F0 m 13 ls [.int v1, .ref (a 0)]) := by
    intro H locs ls X hl
    clear hE
    obtain ⟨u2, eu⟩ : ∃ z, z = M_s_thrown u v1 := ⟨_, rfl⟩
    have hm := lt_t eu hm
    refine kput C X 0 (ci := 6) rfl rfl hinX6 tyX6_ok nmX6 0 (by decide) hf35 rfl (ty := .int) (v := .int v1) rfl rfl rfl (Nat.le_of_ble_eq_true rfl) (w2 := wM g a u2) (by subst eu; rfl) dX6_undo_13 (fun H locs X => ?_)
    clear eu
    refine lv_aload_n hx hb dX6_undo_16 rfl (lv_at hl 0 rfl) ?_
    refine kget C X 0 (ci := 6) rfl rfl hinX6 0 (by decide) hf35 (v := .int (M_thrown u2)) rfl dX6_undo_17 ?_
    refine lv_if_le (tgt := 25) hx hb dX6_undo_20 (by decide) (fun hc => ?_) (fun hc => ?_)
    · have hm := ifp hc hm
      refine lv_aload_n hx hb dX6_undo_25 rfl (lv_at hl 0 rfl) ?_
      refine lv_dup hx hb dX6_undo_26 rfl ?_
      refine kget C X 0 (ci := 6) rfl rfl hinX6 3 (by decide) hf59 (v := .int (M_saves u2)) rfl dX6_undo_27 ?_
      refine lv_iconst (v := 1) hx hb dX6_undo_30 (by decide) ?_
      refine lv_isub hx hb dX6_undo_31 ?_
      obtain ⟨u3, eu⟩ : ∃ z, z = M_s_saves u2 ((M_saves u2) - 1) := ⟨_, rfl⟩
      have hm := lt_t eu hm
      refine kput C X 0 (ci := 6) rfl rfl hinX6 tyX6_ok nmX6 3 (by decide) hf59 rfl (ty := .int) (v := .int ((M_saves u2) - 1)) rfl rfl rfl (Nat.le_of_ble_eq_true rfl) (w2 := wM g a u3) (by subst eu; rfl) dX6_undo_32 (fun H locs X => ?_)
      clear eu
      refine lv_iconst (v := 0) hx hb dX6_undo_35 (by decide) ?_
      refine lv_istore_n (lv' := [(1, .int 0), (0, .ref (a 0))]) hx hb dX6_undo_36 rfl hl (by decide) rfl (fun ls hl => ?_)
      obtain ⟨u8, hL, hm⟩ := bnd hm
      obtain ⟨nn, hn⟩ := lp_run hL
      refine tX6_undo_37 a C  u8 (fun H locs ls X hl => ?_) nn _ _ hn _ _ _ X (lv_sub hl [1, 0] rfl)
      clear hL hn
      refine lv_aload_n hx hb dX6_undo_71 rfl (lv_at hl 0 rfl) ?_
      refine kget C X 0 (ci := 6) rfl rfl hinX6 3 (by decide) hf59 (v := .int (M_saves u8)) rfl dX6_undo_72 ?_
      cases sm hm
      exact kiret C X dX6_undo_75
    · have hm := ifn hc hm
      refine lv_iconst (v := 0) hx hb dX6_undo_23 (by decide) ?_
      cases sm hm
      exact kiret C X dX6_undo_24
  clear hm
  have hm := hE
  clear hE
  refine lv_if_ne (tgt := 12) hx hb dX6_undo_5 (by decide) (fun hc => ?_) (fun hc => ?_)
  · have hm := ifn hc hm
    refine lv_iconst (v := 0) hx hb dX6_undo_12 (by decide) ?_
    cases sm hm
    exact K _ _ _ X (lv_sub hl [0] rfl)
  · have hm := ifp hc hm
    refine lv_iconst (v := 1) hx hb dX6_undo_8 (by decide) ?_
    refine lv_goto (tgt := 13) hx hb dX6_undo_9 (by decide) ?_
    cases sm hm
    exact K _ _ _ X (lv_sub hl [0] rfl)
-- X6 BrushStrokesModel.keep(I)I
abbrev rX6_keep : Room := { frames := 1, cells := 0, slots := 0, locals := 22 }
theorem fl_X6_keep_19 : (Cond.fieldLink RX6 19 "BrushStrokesModel" "isTaken" "[Z") ∈ wsX6_keep := by decide +kernel
theorem fl_X6_keep_35 : (Cond.fieldLink RX6 35 "BrushStrokesModel" "thrown" "I") ∈ wsX6_keep := by decide +kernel
theorem fl_X6_keep_16 : (Cond.fieldLink RX6 16 "BrushStrokesModel" "slots" "[I") ∈ wsX6_keep := by decide +kernel
theorem fl_X6_keep_7 : (Cond.fieldLink RX6 7 "BrushStrokesModel" "z" "[I") ∈ wsX6_keep := by decide +kernel
theorem in_X6_keep_X6 : ∀ w ∈ u_ws RX6 TX6 16, w ∈ wsX6_keep := by decide +kernel
theorem cw_X6_keep_X6_in_39 {p : Program} {s : State} {m : MethodId} {args : Array Value} {meth : Method} {c : Code} {g : kG} {A : Nat → Prop} (C : CT g p s m args meth c RX6 cX6_keep 3 (some .int) wsX6_keep A) : CallB rX6_keep s args RX6 39 yX6_in cX6_in 3 (some .boolean) wsX6_in rX6_in 0 0 3 ∧ (Cond.static yX6_in).before args s = true := cwS 3 C.2.2.2.2.2.1 gX6_keep_X6_in rfl rfl rfl (by decide +kernel) ⟨Nat.le_of_ble_eq_true rfl, Nat.le_of_ble_eq_true rfl⟩
noncomputable def bX6_keep_29 (c4 : Int32) : Int32 × MS → Option ((Int32 × MS) ⊕ (MS))
  | (x5, u6) => if 303 ≤ x5 then (some (.inr u6)) else (gd (inb x5 303) (gd (inb ((303 * c4) + x5) 606) (lt (M_s_slots u6 (upd (M_slots u6) ((303 * c4) + x5).toNatClampNeg (M_z u6 x5.toNatClampNeg))) fun u8 => some (.inl (x5 + 1, u8)))))
noncomputable def lX6_keep_29 (c4 : Int32) (x5 : Int32) (u6 : MS) : Option (MS) := lp (bX6_keep_29 c4) (x5, u6)
theorem lX6_keep_29_eq (c4 : Int32) (x5 : Int32) (u6 : MS) : lX6_keep_29 c4 x5 u6 = (if 303 ≤ x5 then (some (.inr u6)) else (gd (inb x5 303) (gd (inb ((303 * c4) + x5) 606) (lt (M_s_slots u6 (upd (M_slots u6) ((303 * c4) + x5).toNatClampNeg (M_z u6 x5.toNatClampNeg))) fun u8 => some (.inl (x5 + 1, u8)))))).bind fun r => Sum.elim (fun z => lX6_keep_29 c4 z.1 z.2) (fun r => some r) r := lp_eq (bX6_keep_29 c4) (x5, u6)
set_option maxRecDepth 100000 in
set_option maxHeartbeats 4000000 in
theorem tX6_keep_29 {p : Program} {l : Launch} {e : Env} {s : State} {m : MethodId} {args : Array Value} {below : List Frame} {meth : Method} {c : Code} {g : kG} {A : Nat → Prop} {Q : State → Prop} (a : Nat → Nat) (C : CT g p s m args meth c RX6 cX6_keep 3 (some .int) wsX6_keep A) (c4 : Int32) (u7 : MS) (kk : ∀ (H : Heap) (locs : List Loc) (ls : Array Slot), ST g A s H locs (wM g a u7) → lv_has ls 3 [(0, .ref (a 0)), (1, .int c4)] → W p l e rX6_keep s m args below meth c H locs 0 0 Q (F0 m 60 ls [])) : ∀ (n : Nat) (x5 : Int32) (u6 : MS), whl (bX6_keep_29 c4) n (x5, u6) = some u7 → ∀ (H : Heap) (locs : List Loc) (ls : Array Slot), ST g A s H locs (wM g a u6) → lv_has ls 3 [(0, .ref (a 0)), (1, .int c4), (2, .int x5)] → W p l e rX6_keep s m args below meth c H locs 0 0 Q (F0 m 29 ls []) := by
  have hx := C.1
  have hb := C.2.1
  have hinX6 := in_X6_keep_X6
  have hf7 := C.2.2.2.2.2.1 _ fl_X6_keep_7
  have hf16 := C.2.2.2.2.2.1 _ fl_X6_keep_16
  intro n
  induction n with
  | zero =>
    intro x5 u6 hm
    cases hm
  | succ n ih =>
    intro x5 u6 hm H locs ls X hl
    rw [whl] at hm
    obtain ⟨q, hq, hm2⟩ := bnd hm
    clear hm
    have hm := hq
    clear hq
    rw [bX6_keep_29] at hm
    refine lv_iload_n hx hb dX6_keep_29 rfl (lv_at hl 2 rfl) ?_
    refine lv_sipush (v := 303) hx hb dX6_keep_30 (by decide) ?_
    refine lv_icmp_ge (tgt := 60) hx hb dX6_keep_33 (by decide) (fun hc => ?_) (fun hc => ?_)
    · have hm := ifp hc hm
      cases sm hm
      cases sm hm2
      exact kk _ _ _ X (lv_sub hl [0, 1] rfl)
    · have hm := ifn hc hm
      refine lv_aload_n hx hb dX6_keep_36 rfl (lv_at hl 0 rfl) ?_
      refine kget C X 0 (ci := 6) rfl rfl hinX6 4 (by decide) hf16 (v := .ref (a 3)) rfl dX6_keep_37 ?_
      refine lv_sipush (v := 303) hx hb dX6_keep_40 (by decide) ?_
      refine lv_iload_n hx hb dX6_keep_43 rfl (lv_at hl 1 rfl) ?_
      refine lv_imul hx hb dX6_keep_44 ?_
      refine lv_iload_n hx hb dX6_keep_45 rfl (lv_at hl 2 rfl) ?_
      refine lv_iadd hx hb dX6_keep_46 ?_
      refine lv_aload_n hx hb dX6_keep_47 rfl (lv_at hl 0 rfl) ?_
      refine kget C X 0 (ci := 6) rfl rfl hinX6 1 (by decide) hf7 (v := .ref (a 1)) rfl dX6_keep_48 ?_
      refine lv_iload_n hx hb dX6_keep_51 rfl (lv_at hl 2 rfl) ?_
      obtain ⟨hgi, hm⟩ := gd_t hm
      refine kiald C X 1 rfl hgi dX6_keep_52 ?_
      obtain ⟨hgi, hm⟩ := gd_t hm
      obtain ⟨u8, eu⟩ : ∃ z, z = M_s_slots u6 (upd (M_slots u6) ((303 * c4) + x5).toNatClampNeg (M_z u6 x5.toNatClampNeg)) := ⟨_, rfl⟩
      have hm := lt_t eu hm
      refine kiast C X 3 rfl hgi (w2 := wM g a u8) (by subst eu; rfl) dX6_keep_53 (fun H locs X => ?_)
      clear eu
      refine lv_iinc (v := x5 + 1) (lv' := [(2, .int (x5 + 1)), (0, .ref (a 0)), (1, .int c4)]) hx hb dX6_keep_54 hl (k := 2) rfl rfl (by decide) rfl (fun ls hl => ?_)
      refine lv_goto (tgt := 29) hx hb dX6_keep_57 (by decide) ?_
      cases sm hm
      exact ih _ _ hm2 _ _ _ X (lv_sub hl [1, 2, 0] rfl)
noncomputable def fX6_keep (p1 : Int32) (u : MS) : Option (Int32 × MS) := (fX6_in p1 0 1).bind fun r1 => ((if r1 = 0 then (some 1) else (some 0)) : Option (Int32)).bind fun v2 => lt (M_s_thrown u v2) fun u3 => if (M_thrown u3) ≤ 0 then ((lX6_keep_29 p1 0 u3).bind fun u9 => gd (inb p1 2) (lt (M_s_isTaken u9 (upd (M_isTaken u9) p1.toNatClampNeg (vp_nar .boolean 1))) fun u10 => gd (inb 296 303) (some (M_z u10 (296 : Int32).toNatClampNeg, u10)))) else (some (0, u3))
set_option maxRecDepth 100000 in
set_option maxHeartbeats 4000000 in
theorem kX6_keep (l : Launch) (g : kG) (a : Nat → Nat) (p1 : Int32) (u : MS) (o1 : Int32) (o2 : MS) (hm : fX6_keep p1 u = some (o1, o2)) : KM l yX6_keep wsX6_keep rX6_keep g [.ref (a 0), .int p1] (wM g a u) (some (.int o1)) (wM g a o2) 0 0 := by
  refine KM.of (nL := 3) (by decide) rfl (Nat.le_of_ble_eq_true rfl) ?_
  intro p e s m args below meth c A ls C X hl
  have C : CT g p s m args meth c RX6 cX6_keep 3 (some .int) wsX6_keep A := C
  have hx := C.1
  have hb := C.2.1
  have hl : lv_has ls 3 [(0, .ref (a 0)), (1, .int p1)] := hl
  have hinX6 := in_X6_keep_X6
  have hf7 := C.2.2.2.2.2.1 _ fl_X6_keep_7
  have hf19 := C.2.2.2.2.2.1 _ fl_X6_keep_19
  have hf35 := C.2.2.2.2.2.1 _ fl_X6_keep_35
  rw [fX6_keep] at hm
  refine lv_aload_n hx hb dX6_keep_0 rfl (lv_at hl 0 rfl) ?_
  refine lv_iload_n hx hb dX6_keep_1 rfl (lv_at hl 1 rfl) ?_
  refine lv_iconst (v := 0) hx hb dX6_keep_2 (by decide) ?_
  refine lv_iconst (v := 1) hx hb dX6_keep_3 (by decide) ?_
  obtain ⟨r1, hcl, hm⟩ := bnd hm
  refine kS0 C X (kX6_in l g p1 0 1 r1 hcl) (cw_X6_keep_X6_in_39 C) (As := [.int p1, .int 0, .int 1]) rfl hl (rest := [.ref (a 0)]) rfl (Nat.le_of_ble_eq_true rfl) (st2 := [.int r1, .ref (a 0)]) rfl dX6_keep_4 ⟨Nat.le_of_ble_eq_true rfl, Nat.le_of_ble_eq_true rfl⟩ (fun H locs X => ?_)
  clear hcl
  obtain ⟨v2, hE, hm⟩ := bnd hm
  have K : ∀ (H : Heap) (locs : List Loc) (ls : Array Slot), ST g A s H locs (wM g a u) → lv_has ls 3 [(0, .ref (a 0)), (1, .int p1)] → W p l e rX6_keep s m args below meth c H locs 0 0 (kEnd g below args s (some (.int o1)) (wM g a o2) A 0 0) (F0 m 15 ls [.int v2, .ref (a 0)]) := by
    intro H locs ls X hl
    clear hE
    obtain ⟨u3, eu⟩ : ∃ z, z = M_s_thrown u v2 := ⟨_, rfl⟩
    have hm := lt_t eu hm
    refine kput C X 0 (ci := 6) rfl rfl hinX6 tyX6_ok nmX6 0 (by decide) hf35 rfl (ty := .int) (v := .int v2) rfl rfl rfl (Nat.le_of_ble_eq_true rfl) (w2 := wM g a u3) (by subst eu; rfl) dX6_keep_15 (fun H locs X => ?_)
    clear eu
    refine lv_aload_n hx hb dX6_keep_18 rfl (lv_at hl 0 rfl) ?_
    refine kget C X 0 (ci := 6) rfl rfl hinX6 0 (by decide) hf35 (v := .int (M_thrown u3)) rfl dX6_keep_19 ?_
    refine lv_if_le (tgt := 27) hx hb dX6_keep_22 (by decide) (fun hc => ?_) (fun hc => ?_)
    · have hm := ifp hc hm
      refine lv_iconst (v := 0) hx hb dX6_keep_27 (by decide) ?_
      refine lv_istore_n (lv' := [(2, .int 0), (0, .ref (a 0)), (1, .int p1)]) hx hb dX6_keep_28 rfl hl (by decide) rfl (fun ls hl => ?_)
      obtain ⟨u9, hL, hm⟩ := bnd hm
      obtain ⟨nn, hn⟩ := lp_run hL
      refine tX6_keep_29 a C p1 u9 (fun H locs ls X hl => ?_) nn _ _ hn _ _ _ X (lv_sub hl [1, 2, 0] rfl)
      clear hL hn
      refine lv_aload_n hx hb dX6_keep_60 rfl (lv_at hl 0 rfl) ?_
      refine kget C X 0 (ci := 6) rfl rfl hinX6 5 (by decide) hf19 (v := .ref (a 4)) rfl dX6_keep_61 ?_
      refine lv_iload_n hx hb dX6_keep_64 rfl (lv_at hl 1 rfl) ?_
      refine lv_iconst (v := 1) hx hb dX6_keep_65 (by decide) ?_
      obtain ⟨hgi, hm⟩ := gd_t hm
      obtain ⟨u10, eu⟩ : ∃ z, z = M_s_isTaken u9 (upd (M_isTaken u9) p1.toNatClampNeg (vp_nar .boolean 1)) := ⟨_, rfl⟩
      have hm := lt_t eu hm
      refine kzast C X 4 rfl hgi (w2 := wM g a u10) (by subst eu; rfl) dX6_keep_66 (fun H locs X => ?_)
      clear eu
      refine lv_aload_n hx hb dX6_keep_67 rfl (lv_at hl 0 rfl) ?_
      refine kget C X 0 (ci := 6) rfl rfl hinX6 1 (by decide) hf7 (v := .ref (a 1)) rfl dX6_keep_68 ?_
      refine lv_sipush (v := 296) hx hb dX6_keep_71 (by decide) ?_
      obtain ⟨hgi, hm⟩ := gd_t hm
      refine kiald C X 1 rfl hgi dX6_keep_74 ?_
      cases sm hm
      exact kiret C X dX6_keep_75
    · have hm := ifn hc hm
      refine lv_iconst (v := 0) hx hb dX6_keep_25 (by decide) ?_
      cases sm hm
      exact kiret C X dX6_keep_26
  clear hm
  have hm := hE
  clear hE
  refine lv_if_eq (tgt := 14) hx hb dX6_keep_7 (by decide) (fun hc => ?_) (fun hc => ?_)
  · have hm := ifp hc hm
    refine lv_iconst (v := 1) hx hb dX6_keep_14 (by decide) ?_
    cases sm hm
    exact K _ _ _ X (lv_sub hl [0, 1] rfl)
  · have hm := ifn hc hm
    refine lv_iconst (v := 0) hx hb dX6_keep_10 (by decide) ?_
    refine lv_goto (tgt := 15) hx hb dX6_keep_11 (by decide) ?_
    cases sm hm
    exact K _ _ _ X (lv_sub hl [0, 1] rfl)
-- X6 BrushStrokesModel.goBack(I)I
abbrev rX6_goBack : Room := { frames := 1, cells := 0, slots := 0, locals := 22 }
theorem fl_X6_goBack_19 : (Cond.fieldLink RX6 19 "BrushStrokesModel" "isTaken" "[Z") ∈ wsX6_goBack := by decide +kernel
theorem fl_X6_goBack_35 : (Cond.fieldLink RX6 35 "BrushStrokesModel" "thrown" "I") ∈ wsX6_goBack := by decide +kernel
theorem fl_X6_goBack_16 : (Cond.fieldLink RX6 16 "BrushStrokesModel" "slots" "[I") ∈ wsX6_goBack := by decide +kernel
theorem fl_X6_goBack_7 : (Cond.fieldLink RX6 7 "BrushStrokesModel" "z" "[I") ∈ wsX6_goBack := by decide +kernel
theorem in_X6_goBack_X6 : ∀ w ∈ u_ws RX6 TX6 16, w ∈ wsX6_goBack := by decide +kernel
theorem cw_X6_goBack_X6_in_39 {p : Program} {s : State} {m : MethodId} {args : Array Value} {meth : Method} {c : Code} {g : kG} {A : Nat → Prop} (C : CT g p s m args meth c RX6 cX6_goBack 3 (some .int) wsX6_goBack A) : CallB rX6_goBack s args RX6 39 yX6_in cX6_in 3 (some .boolean) wsX6_in rX6_in 0 0 3 ∧ (Cond.static yX6_in).before args s = true := cwS 3 C.2.2.2.2.2.1 gX6_goBack_X6_in rfl rfl rfl (by decide +kernel) ⟨Nat.le_of_ble_eq_true rfl, Nat.le_of_ble_eq_true rfl⟩
theorem cw_X6_goBack_X6_record_62 {p : Program} {s : State} {m : MethodId} {args : Array Value} {meth : Method} {c : Code} {g : kG} {A : Nat → Prop} (C : CT g p s m args meth c RX6 cX6_goBack 3 (some .int) wsX6_goBack A) : CallW rX6_goBack s args RX6 RX6 62 yX6_record cX6_record 2 none wsX6_record rX6_record 0 0 0 := cwV 0 C.2.2.2.2.2.1 gX6_goBack_X6_record rfl rfl rfl (by decide +kernel) ⟨Nat.le_of_ble_eq_true rfl, Nat.le_of_ble_eq_true rfl⟩
noncomputable def bX6_goBack_46 (c5 : Int32) : Int32 × MS → Option ((Int32 × MS) ⊕ (MS))
  | (x6, u7) => if 303 ≤ x6 then (some (.inr u7)) else (gd (inb ((303 * c5) + x6) 606) (gd (inb x6 303) (lt (M_s_z u7 (upd (M_z u7) x6.toNatClampNeg (M_slots u7 ((303 * c5) + x6).toNatClampNeg))) fun u9 => some (.inl (x6 + 1, u9)))))
noncomputable def lX6_goBack_46 (c5 : Int32) (x6 : Int32) (u7 : MS) : Option (MS) := lp (bX6_goBack_46 c5) (x6, u7)
theorem lX6_goBack_46_eq (c5 : Int32) (x6 : Int32) (u7 : MS) : lX6_goBack_46 c5 x6 u7 = (if 303 ≤ x6 then (some (.inr u7)) else (gd (inb ((303 * c5) + x6) 606) (gd (inb x6 303) (lt (M_s_z u7 (upd (M_z u7) x6.toNatClampNeg (M_slots u7 ((303 * c5) + x6).toNatClampNeg))) fun u9 => some (.inl (x6 + 1, u9)))))).bind fun r => Sum.elim (fun z => lX6_goBack_46 c5 z.1 z.2) (fun r => some r) r := lp_eq (bX6_goBack_46 c5) (x6, u7)
set_option maxRecDepth 100000 in
set_option maxHeartbeats 4000000 in
theorem tX6_goBack_46 {p : Program} {l : Launch} {e : Env} {s : State} {m : MethodId} {args : Array Value} {below : List Frame} {meth : Method} {c : Code} {g : kG} {A : Nat → Prop} {Q : State → Prop} (a : Nat → Nat) (C : CT g p s m args meth c RX6 cX6_goBack 3 (some .int) wsX6_goBack A) (c5 : Int32) (u8 : MS) (kk : ∀ (H : Heap) (locs : List Loc) (ls : Array Slot), ST g A s H locs (wM g a u8) → lv_has ls 3 [(0, .ref (a 0))] → W p l e rX6_goBack s m args below meth c H locs 0 0 Q (F0 m 77 ls [])) : ∀ (n : Nat) (x6 : Int32) (u7 : MS), whl (bX6_goBack_46 c5) n (x6, u7) = some u8 → ∀ (H : Heap) (locs : List Loc) (ls : Array Slot), ST g A s H locs (wM g a u7) → lv_has ls 3 [(0, .ref (a 0)), (1, .int c5), (2, .int x6)] → W p l e rX6_goBack s m args below meth c H locs 0 0 Q (F0 m 46 ls []) := by
  have hx := C.1
  have hb := C.2.1
  have hinX6 := in_X6_goBack_X6
  have hf7 := C.2.2.2.2.2.1 _ fl_X6_goBack_7
  have hf16 := C.2.2.2.2.2.1 _ fl_X6_goBack_16
  intro n
  induction n with
  | zero =>
    intro x6 u7 hm
    cases hm
  | succ n ih =>
    intro x6 u7 hm H locs ls X hl
    rw [whl] at hm
    obtain ⟨q, hq, hm2⟩ := bnd hm
    clear hm
    have hm := hq
    clear hq
    rw [bX6_goBack_46] at hm
    refine lv_iload_n hx hb dX6_goBack_46 rfl (lv_at hl 2 rfl) ?_
    refine lv_sipush (v := 303) hx hb dX6_goBack_47 (by decide) ?_
    refine lv_icmp_ge (tgt := 77) hx hb dX6_goBack_50 (by decide) (fun hc => ?_) (fun hc => ?_)
    · have hm := ifp hc hm
      cases sm hm
      cases sm hm2
      exact kk _ _ _ X (lv_sub hl [0] rfl)
    · have hm := ifn hc hm
      refine lv_aload_n hx hb dX6_goBack_53 rfl (lv_at hl 0 rfl) ?_
      refine kget C X 0 (ci := 6) rfl rfl hinX6 1 (by decide) hf7 (v := .ref (a 1)) rfl dX6_goBack_54 ?_
      refine lv_iload_n hx hb dX6_goBack_57 rfl (lv_at hl 2 rfl) ?_
      refine lv_aload_n hx hb dX6_goBack_58 rfl (lv_at hl 0 rfl) ?_
      refine kget C X 0 (ci := 6) rfl rfl hinX6 4 (by decide) hf16 (v := .ref (a 3)) rfl dX6_goBack_59 ?_
      refine lv_sipush (v := 303) hx hb dX6_goBack_62 (by decide) ?_
      refine lv_iload_n hx hb dX6_goBack_65 rfl (lv_at hl 1 rfl) ?_
      refine lv_imul hx hb dX6_goBack_66 ?_
      refine lv_iload_n hx hb dX6_goBack_67 rfl (lv_at hl 2 rfl) ?_
      refine lv_iadd hx hb dX6_goBack_68 ?_
      obtain ⟨hgi, hm⟩ := gd_t hm
      refine kiald C X 3 rfl hgi dX6_goBack_69 ?_
      obtain ⟨hgi, hm⟩ := gd_t hm
      obtain ⟨u9, eu⟩ : ∃ z, z = M_s_z u7 (upd (M_z u7) x6.toNatClampNeg (M_slots u7 ((303 * c5) + x6).toNatClampNeg)) := ⟨_, rfl⟩
      have hm := lt_t eu hm
      refine kiast C X 1 rfl hgi (w2 := wM g a u9) (by subst eu; rfl) dX6_goBack_70 (fun H locs X => ?_)
      clear eu
      refine lv_iinc (v := x6 + 1) (lv' := [(2, .int (x6 + 1)), (0, .ref (a 0)), (1, .int c5)]) hx hb dX6_goBack_71 hl (k := 2) rfl rfl (by decide) rfl (fun ls hl => ?_)
      refine lv_goto (tgt := 46) hx hb dX6_goBack_74 (by decide) ?_
      cases sm hm
      exact ih _ _ hm2 _ _ _ X (lv_sub hl [1, 2, 0] rfl)
noncomputable def fX6_goBack (p1 : Int32) (u : MS) : Option (Int32 × MS) := (fX6_in p1 0 1).bind fun r1 => ((if r1 = 0 then (some 1) else (gd (inb p1 2) (if (M_isTaken u p1.toNatClampNeg) = 0 then (some 2) else (some 0)))) : Option (Int32)).bind fun v2 => lt (M_s_thrown u v2) fun u3 => if (M_thrown u3) ≤ 0 then ((fX6_record u3).bind fun u4 => (lX6_goBack_46 p1 0 u4).bind fun u10 => gd (inb 296 303) (some (M_z u10 (296 : Int32).toNatClampNeg, u10))) else (some (0, u3))
set_option maxRecDepth 100000 in
set_option maxHeartbeats 4000000 in
theorem kX6_goBack (l : Launch) (g : kG) (a : Nat → Nat) (p1 : Int32) (u : MS) (o1 : Int32) (o2 : MS) (hm : fX6_goBack p1 u = some (o1, o2)) : KM l yX6_goBack wsX6_goBack rX6_goBack g [.ref (a 0), .int p1] (wM g a u) (some (.int o1)) (wM g a o2) 0 0 := by
  refine KM.of (nL := 3) (by decide) rfl (Nat.le_of_ble_eq_true rfl) ?_
  intro p e s m args below meth c A ls C X hl
  have C : CT g p s m args meth c RX6 cX6_goBack 3 (some .int) wsX6_goBack A := C
  have hx := C.1
  have hb := C.2.1
  have hl : lv_has ls 3 [(0, .ref (a 0)), (1, .int p1)] := hl
  have hinX6 := in_X6_goBack_X6
  have hf7 := C.2.2.2.2.2.1 _ fl_X6_goBack_7
  have hf19 := C.2.2.2.2.2.1 _ fl_X6_goBack_19
  have hf35 := C.2.2.2.2.2.1 _ fl_X6_goBack_35
  rw [fX6_goBack] at hm
  refine lv_aload_n hx hb dX6_goBack_0 rfl (lv_at hl 0 rfl) ?_
  refine lv_iload_n hx hb dX6_goBack_1 rfl (lv_at hl 1 rfl) ?_
  refine lv_iconst (v := 0) hx hb dX6_goBack_2 (by decide) ?_
  refine lv_iconst (v := 1) hx hb dX6_goBack_3 (by decide) ?_
  obtain ⟨r1, hcl, hm⟩ := bnd hm
  refine kS0 C X (kX6_in l g p1 0 1 r1 hcl) (cw_X6_goBack_X6_in_39 C) (As := [.int p1, .int 0, .int 1]) rfl hl (rest := [.ref (a 0)]) rfl (Nat.le_of_ble_eq_true rfl) (st2 := [.int r1, .ref (a 0)]) rfl dX6_goBack_4 ⟨Nat.le_of_ble_eq_true rfl, Nat.le_of_ble_eq_true rfl⟩ (fun H locs X => ?_)
  clear hcl
  obtain ⟨v2, hE, hm⟩ := bnd hm
  have K : ∀ (H : Heap) (locs : List Loc) (ls : Array Slot), ST g A s H locs (wM g a u) → lv_has ls 3 [(0, .ref (a 0)), (1, .int p1)] → W p l e rX6_goBack s m args below meth c H locs 0 0 (kEnd g below args s (some (.int o1)) (wM g a o2) A 0 0) (F0 m 28 ls [.int v2, .ref (a 0)]) := by
    intro H locs ls X hl
    clear hE
    obtain ⟨u3, eu⟩ : ∃ z, z = M_s_thrown u v2 := ⟨_, rfl⟩
    have hm := lt_t eu hm
    refine kput C X 0 (ci := 6) rfl rfl hinX6 tyX6_ok nmX6 0 (by decide) hf35 rfl (ty := .int) (v := .int v2) rfl rfl rfl (Nat.le_of_ble_eq_true rfl) (w2 := wM g a u3) (by subst eu; rfl) dX6_goBack_28 (fun H locs X => ?_)
    clear eu
    refine lv_aload_n hx hb dX6_goBack_31 rfl (lv_at hl 0 rfl) ?_
    refine kget C X 0 (ci := 6) rfl rfl hinX6 0 (by decide) hf35 (v := .int (M_thrown u3)) rfl dX6_goBack_32 ?_
    refine lv_if_le (tgt := 40) hx hb dX6_goBack_35 (by decide) (fun hc => ?_) (fun hc => ?_)
    · have hm := ifp hc hm
      refine lv_aload_n hx hb dX6_goBack_40 rfl (lv_at hl 0 rfl) ?_
      obtain ⟨u4, hcl, hm⟩ := bnd hm
      refine kVW C X (kX6_record l g a u3 u4 hcl) (cw_X6_goBack_X6_record_62 C) 0 (ci := 6) rfl rfl (As := []) rfl hl (rest := []) rfl (Nat.le_of_ble_eq_true rfl) (st2 := []) rfl dX6_goBack_41 ⟨Nat.le_of_ble_eq_true rfl, Nat.le_of_ble_eq_true rfl⟩ (fun H locs X => ?_)
      clear hcl
      refine lv_iconst (v := 0) hx hb dX6_goBack_44 (by decide) ?_
      refine lv_istore_n (lv' := [(2, .int 0), (0, .ref (a 0)), (1, .int p1)]) hx hb dX6_goBack_45 rfl hl (by decide) rfl (fun ls hl => ?_)
      obtain ⟨u10, hL, hm⟩ := bnd hm
      obtain ⟨nn, hn⟩ := lp_run hL
      refine tX6_goBack_46 a C p1 u10 (fun H locs ls X hl => ?_) nn _ _ hn _ _ _ X (lv_sub hl [1, 2, 0] rfl)
      clear hL hn
      refine lv_aload_n hx hb dX6_goBack_77 rfl (lv_at hl 0 rfl) ?_
      refine kget C X 0 (ci := 6) rfl rfl hinX6 1 (by decide) hf7 (v := .ref (a 1)) rfl dX6_goBack_78 ?_
      refine lv_sipush (v := 296) hx hb dX6_goBack_81 (by decide) ?_
      obtain ⟨hgi, hm⟩ := gd_t hm
      refine kiald C X 1 rfl hgi dX6_goBack_84 ?_
      cases sm hm
      exact kiret C X dX6_goBack_85
    · have hm := ifn hc hm
      refine lv_iconst (v := 0) hx hb dX6_goBack_38 (by decide) ?_
      cases sm hm
      exact kiret C X dX6_goBack_39
  clear hm
  have hm := hE
  clear hE
  refine lv_if_ne (tgt := 14) hx hb dX6_goBack_7 (by decide) (fun hc => ?_) (fun hc => ?_)
  · have hm := ifn hc hm
    refine lv_aload_n hx hb dX6_goBack_14 rfl (lv_at hl 0 rfl) ?_
    refine kget C X 0 (ci := 6) rfl rfl hinX6 5 (by decide) hf19 (v := .ref (a 4)) rfl dX6_goBack_15 ?_
    refine lv_iload_n hx hb dX6_goBack_18 rfl (lv_at hl 1 rfl) ?_
    obtain ⟨hgi, hm⟩ := gd_t hm
    refine kzald C X 4 rfl hgi dX6_goBack_19 ?_
    refine lv_if_eq (tgt := 27) hx hb dX6_goBack_20 (by decide) (fun hc => ?_) (fun hc => ?_)
    · have hm := ifp hc hm
      refine lv_iconst (v := 2) hx hb dX6_goBack_27 (by decide) ?_
      cases sm hm
      exact K _ _ _ X (lv_sub hl [0, 1] rfl)
    · have hm := ifn hc hm
      refine lv_iconst (v := 0) hx hb dX6_goBack_23 (by decide) ?_
      refine lv_goto (tgt := 28) hx hb dX6_goBack_24 (by decide) ?_
      cases sm hm
      exact K _ _ _ X (lv_sub hl [0, 1] rfl)
  · have hm := ifp hc hm
    refine lv_iconst (v := 1) hx hb dX6_goBack_10 (by decide) ?_
    refine lv_goto (tgt := 28) hx hb dX6_goBack_11 (by decide) ?_
    cases sm hm
    exact K _ _ _ X (lv_sub hl [0, 1] rfl)
