-- X6 BrushStrokesModel.isAt(II)Z
abbrev rX6_isAt : Room := { frames := 1, cells := 0, slots := 0, locals := 22 }
theorem cw_X6_isAt_X6_in_39 {p : Program} {s : State} {m : MethodId} {args : Array Value} {meth : Method} {c : Code} {g : kG} {A : Nat → Prop} (C : CT g p s m args meth c RX6 cX6_isAt 2 (some .boolean) wsX6_isAt A) : CallB rX6_isAt s args RX6 39 yX6_in cX6_in 3 (some .boolean) wsX6_in rX6_in 0 0 3 ∧ (Cond.static yX6_in).before args s = true := cwS 3 C.2.2.2.2.2.1 gX6_isAt_X6_in rfl rfl rfl (by decide +kernel) ⟨Nat.le_of_ble_eq_true rfl, Nat.le_of_ble_eq_true rfl⟩
noncomputable def fX6_isAt (p1 : Int32) (p2 : Int32) : Option (Int32) := (fX6_in p1 0 99).bind fun r1 => ((if r1 = 0 then (some 0) else ((fX6_in p2 0 99).bind fun r4 => if r4 = 0 then (some 0) else (some 1))) : Option (Int32)).bind fun v3 => gd (isb v3) (some v3)
set_option maxRecDepth 100000 in
set_option maxHeartbeats 4000000 in
theorem kX6_isAt (l : Launch) (g : kG) (p1 : Int32) (p2 : Int32) (o1 : Int32) (hm : fX6_isAt p1 p2 = some o1) : KM l yX6_isAt wsX6_isAt rX6_isAt g [.int p1, .int p2] ([]) (some (.int o1)) ([]) 0 0 := by
  refine KM.of (nL := 2) (by decide) rfl (Nat.le_of_ble_eq_true rfl) ?_
  intro p e s m args below meth c A ls C X hl
  have C : CT g p s m args meth c RX6 cX6_isAt 2 (some .boolean) wsX6_isAt A := C
  have hx := C.1
  have hb := C.2.1
  have hl : lv_has ls 2 [(0, .int p1), (1, .int p2)] := hl
  rw [fX6_isAt] at hm
  refine lv_iload_n hx hb dX6_isAt_0 rfl (lv_at hl 0 rfl) ?_
  refine lv_iconst (v := 0) hx hb dX6_isAt_1 (by decide) ?_
  refine lv_bipush (v := 99) hx hb dX6_isAt_2 (by decide) ?_
  obtain ⟨r1, hcl, hm⟩ := bnd hm
  refine kS0 C X (kX6_in l g p1 0 99 r1 hcl) (cw_X6_isAt_X6_in_39 C) (As := [.int p1, .int 0, .int 99]) rfl hl (rest := []) rfl (Nat.le_of_ble_eq_true rfl) (st2 := [.int r1]) rfl dX6_isAt_4 ⟨Nat.le_of_ble_eq_true rfl, Nat.le_of_ble_eq_true rfl⟩ (fun H locs X => ?_)
  clear hcl
  obtain ⟨v3, hE, hm⟩ := bnd hm
  have K : ∀ (H : Heap) (locs : List Loc) (ls : Array Slot), ST g A s H locs ([]) → lv_has ls 2 [] → W p l e rX6_isAt s m args below meth c H locs 0 0 (kEnd g below args s (some (.int o1)) ([]) A 0 0) (F0 m 25 ls [.int v3]) := by
    intro H locs ls X hl
    clear hE
    obtain ⟨hgb, hm⟩ := gd_t hm
    cases sm hm
    exact kzret (isb_n hgb) C X dX6_isAt_25
  clear hm
  have hm := hE
  clear hE
  refine lv_if_eq (tgt := 24) hx hb dX6_isAt_7 (by decide) (fun hc => ?_) (fun hc => ?_)
  · have hm := ifp hc hm
    refine lv_iconst (v := 0) hx hb dX6_isAt_24 (by decide) ?_
    cases sm hm
    exact K _ _ _ X (lv_sub hl [] rfl)
  · have hm := ifn hc hm
    refine lv_iload_n hx hb dX6_isAt_10 rfl (lv_at hl 1 rfl) ?_
    refine lv_iconst (v := 0) hx hb dX6_isAt_11 (by decide) ?_
    refine lv_bipush (v := 99) hx hb dX6_isAt_12 (by decide) ?_
    obtain ⟨r4, hcl, hm⟩ := bnd hm
    refine kS0 C X (kX6_in l g p2 0 99 r4 hcl) (cw_X6_isAt_X6_in_39 C) (As := [.int p2, .int 0, .int 99]) rfl hl (rest := []) rfl (Nat.le_of_ble_eq_true rfl) (st2 := [.int r4]) rfl dX6_isAt_14 ⟨Nat.le_of_ble_eq_true rfl, Nat.le_of_ble_eq_true rfl⟩ (fun H locs X => ?_)
    clear hcl
    refine lv_if_eq (tgt := 24) hx hb dX6_isAt_17 (by decide) (fun hc => ?_) (fun hc => ?_)
    · have hm := ifp hc hm
      refine lv_iconst (v := 0) hx hb dX6_isAt_24 (by decide) ?_
      cases sm hm
      exact K _ _ _ X (lv_sub hl [] rfl)
    · have hm := ifn hc hm
      refine lv_iconst (v := 1) hx hb dX6_isAt_20 (by decide) ?_
      refine lv_goto (tgt := 25) hx hb dX6_isAt_21 (by decide) ?_
      cases sm hm
      exact K _ _ _ X (lv_sub hl [] rfl)
-- X6 BrushStrokesModel.begin(I)I
abbrev rX6_begin : Room := { frames := 3, cells := 0, slots := 0, locals := 63 }
theorem fl_X6_begin_7 : (Cond.fieldLink RX6 7 "BrushStrokesModel" "z" "[I") ∈ wsX6_begin := by decide +kernel
theorem in_X6_begin_X6 : ∀ w ∈ u_ws RX6 TX6 16, w ∈ wsX6_begin := by decide +kernel
theorem cw_X6_begin_X6_keepAll_120 {p : Program} {s : State} {m : MethodId} {args : Array Value} {meth : Method} {c : Code} {g : kG} {A : Nat → Prop} (C : CT g p s m args meth c RX6 cX6_begin 3 (some .int) wsX6_begin A) : CallW rX6_begin s args RX6 RX6 120 yX6_keepAll cX6_keepAll 2 none wsX6_keepAll rX6_keepAll 0 0 1 := cwV 1 C.2.2.2.2.2.1 gX6_begin_X6_keepAll rfl rfl rfl (by decide +kernel) ⟨Nat.le_of_ble_eq_true rfl, Nat.le_of_ble_eq_true rfl⟩
noncomputable def fX6_begin (p1 : Int32) (u : MS) : Option (Int32 × MS) := gd (inb 296 303) (gd (inb 296 303) (gd (inb 296 303) (lt (M_s_z u (upd (M_z u) (296 : Int32).toNatClampNeg ((M_z u (296 : Int32).toNatClampNeg) + 1))) fun u1 => gd (inb (74 * (M_z u (296 : Int32).toNatClampNeg)) 303) (lt (M_s_z u1 (upd (M_z u1) (74 * (M_z u (296 : Int32).toNatClampNeg)).toNatClampNeg p1)) fun u2 => (fX6_keepAll (M_z u (296 : Int32).toNatClampNeg) u2).bind fun u3 => some (M_z u (296 : Int32).toNatClampNeg, u3)))))
set_option maxRecDepth 100000 in
set_option maxHeartbeats 4000000 in
theorem kX6_begin (l : Launch) (g : kG) (a : Nat → Nat) (p1 : Int32) (u : MS) (o1 : Int32) (o2 : MS) (hm : fX6_begin p1 u = some (o1, o2)) : KM l yX6_begin wsX6_begin rX6_begin g [.ref (a 0), .int p1] (wM g a u) (some (.int o1)) (wM g a o2) 0 0 := by
  refine KM.of (nL := 3) (by decide) rfl (Nat.le_of_ble_eq_true rfl) ?_
  intro p e s m args below meth c A ls C X hl
  have C : CT g p s m args meth c RX6 cX6_begin 3 (some .int) wsX6_begin A := C
  have hx := C.1
  have hb := C.2.1
  have hl : lv_has ls 3 [(0, .ref (a 0)), (1, .int p1)] := hl
  have hinX6 := in_X6_begin_X6
  have hf7 := C.2.2.2.2.2.1 _ fl_X6_begin_7
  rw [fX6_begin] at hm
  refine lv_aload_n hx hb dX6_begin_0 rfl (lv_at hl 0 rfl) ?_
  refine kget C X 0 (ci := 6) rfl rfl hinX6 1 (by decide) hf7 (v := .ref (a 1)) rfl dX6_begin_1 ?_
  refine lv_sipush (v := 296) hx hb dX6_begin_4 (by decide) ?_
  obtain ⟨hgi, hm⟩ := gd_t hm
  refine kiald C X 1 rfl hgi dX6_begin_7 ?_
  refine lv_istore_n (lv' := [(2, .int (M_z u (296 : Int32).toNatClampNeg)), (0, .ref (a 0)), (1, .int p1)]) hx hb dX6_begin_8 rfl hl (by decide) rfl (fun ls hl => ?_)
  refine lv_aload_n hx hb dX6_begin_9 rfl (lv_at hl 1 rfl) ?_
  refine kget C X 0 (ci := 6) rfl rfl hinX6 1 (by decide) hf7 (v := .ref (a 1)) rfl dX6_begin_10 ?_
  refine lv_sipush (v := 296) hx hb dX6_begin_13 (by decide) ?_
  refine lv_dup2_11 hx hb dX6_begin_16 rfl rfl ?_
  obtain ⟨hgi, hm⟩ := gd_t hm
  refine kiald C X 1 rfl hgi dX6_begin_17 ?_
  refine lv_iconst (v := 1) hx hb dX6_begin_18 (by decide) ?_
  refine lv_iadd hx hb dX6_begin_19 ?_
  obtain ⟨hgi, hm⟩ := gd_t hm
  obtain ⟨u1, eu⟩ : ∃ z, z = M_s_z u (upd (M_z u) (296 : Int32).toNatClampNeg ((M_z u (296 : Int32).toNatClampNeg) + 1)) := ⟨_, rfl⟩
  have hm := lt_t eu hm
  refine kiast C X 1 rfl hgi (w2 := wM g a u1) (by subst eu; rfl) dX6_begin_20 (fun H locs X => ?_)
  clear eu
  refine lv_aload_n hx hb dX6_begin_21 rfl (lv_at hl 1 rfl) ?_
  refine kget C X 0 (ci := 6) rfl rfl hinX6 1 (by decide) hf7 (v := .ref (a 1)) rfl dX6_begin_22 ?_
  refine lv_bipush (v := 74) hx hb dX6_begin_25 (by decide) ?_
  refine lv_iload_n hx hb dX6_begin_27 rfl (lv_at hl 0 rfl) ?_
  refine lv_imul hx hb dX6_begin_28 ?_
  refine lv_iload_n hx hb dX6_begin_29 rfl (lv_at hl 2 rfl) ?_
  obtain ⟨hgi, hm⟩ := gd_t hm
  obtain ⟨u2, eu⟩ : ∃ z, z = M_s_z u1 (upd (M_z u1) (74 * (M_z u (296 : Int32).toNatClampNeg)).toNatClampNeg p1) := ⟨_, rfl⟩
  have hm := lt_t eu hm
  refine kiast C X 1 rfl hgi (w2 := wM g a u2) (by subst eu; rfl) dX6_begin_30 (fun H locs X => ?_)
  clear eu
  refine lv_aload_n hx hb dX6_begin_31 rfl (lv_at hl 1 rfl) ?_
  refine lv_iload_n hx hb dX6_begin_32 rfl (lv_at hl 0 rfl) ?_
  obtain ⟨u3, hcl, hm⟩ := bnd hm
  refine kVW C X (kX6_keepAll l g a (M_z u (296 : Int32).toNatClampNeg) u2 u3 hcl) (cw_X6_begin_X6_keepAll_120 C) 0 (ci := 6) rfl rfl (As := [.int (M_z u (296 : Int32).toNatClampNeg)]) rfl hl (rest := []) rfl (Nat.le_of_ble_eq_true rfl) (st2 := []) rfl dX6_begin_33 ⟨Nat.le_of_ble_eq_true rfl, Nat.le_of_ble_eq_true rfl⟩ (fun H locs X => ?_)
  clear hcl
  refine lv_iload_n hx hb dX6_begin_36 rfl (lv_at hl 0 rfl) ?_
  cases sm hm
  exact kiret C X dX6_begin_37
-- X6 BrushStrokesModel.stroke(IIII)I
abbrev rX6_stroke : Room := { frames := 4, cells := 0, slots := 0, locals := 85 }
theorem fl_X6_stroke_35 : (Cond.fieldLink RX6 35 "BrushStrokesModel" "thrown" "I") ∈ wsX6_stroke := by decide +kernel
theorem fl_X6_stroke_7 : (Cond.fieldLink RX6 7 "BrushStrokesModel" "z" "[I") ∈ wsX6_stroke := by decide +kernel
theorem in_X6_stroke_X6 : ∀ w ∈ u_ws RX6 TX6 16, w ∈ wsX6_stroke := by decide +kernel
theorem cw_X6_stroke_X6_isAt_124 {p : Program} {s : State} {m : MethodId} {args : Array Value} {meth : Method} {c : Code} {g : kG} {A : Nat → Prop} (C : CT g p s m args meth c RX6 cX6_stroke 6 (some .int) wsX6_stroke A) : CallB rX6_stroke s args RX6 124 yX6_isAt cX6_isAt 2 (some .boolean) wsX6_isAt rX6_isAt 0 0 2 ∧ (Cond.static yX6_isAt).before args s = true := cwS 2 C.2.2.2.2.2.1 gX6_stroke_X6_isAt rfl rfl rfl (by decide +kernel) ⟨Nat.le_of_ble_eq_true rfl, Nat.le_of_ble_eq_true rfl⟩
theorem cw_X6_stroke_X6_record_62 {p : Program} {s : State} {m : MethodId} {args : Array Value} {meth : Method} {c : Code} {g : kG} {A : Nat → Prop} (C : CT g p s m args meth c RX6 cX6_stroke 6 (some .int) wsX6_stroke A) : CallW rX6_stroke s args RX6 RX6 62 yX6_record cX6_record 2 none wsX6_record rX6_record 0 0 0 := cwV 0 C.2.2.2.2.2.1 gX6_stroke_X6_record rfl rfl rfl (by decide +kernel) ⟨Nat.le_of_ble_eq_true rfl, Nat.le_of_ble_eq_true rfl⟩
theorem cw_X6_stroke_X6_begin_127 {p : Program} {s : State} {m : MethodId} {args : Array Value} {meth : Method} {c : Code} {g : kG} {A : Nat → Prop} (C : CT g p s m args meth c RX6 cX6_stroke 6 (some .int) wsX6_stroke A) : CallW rX6_stroke s args RX6 RX6 127 yX6_begin cX6_begin 3 (some .int) wsX6_begin rX6_begin 0 0 1 := cwV 1 C.2.2.2.2.2.1 gX6_stroke_X6_begin rfl rfl rfl (by decide +kernel) ⟨Nat.le_of_ble_eq_true rfl, Nat.le_of_ble_eq_true rfl⟩
theorem cw_X6_stroke_X6_put_130 {p : Program} {s : State} {m : MethodId} {args : Array Value} {meth : Method} {c : Code} {g : kG} {A : Nat → Prop} (C : CT g p s m args meth c RX6 cX6_stroke 6 (some .int) wsX6_stroke A) : CallW rX6_stroke s args RX6 RX6 130 yX6_put cX6_put 7 none wsX6_put rX6_put 0 0 5 := cwV 5 C.2.2.2.2.2.1 gX6_stroke_X6_put rfl rfl rfl (by decide +kernel) ⟨Nat.le_of_ble_eq_true rfl, Nat.le_of_ble_eq_true rfl⟩
noncomputable def fX6_stroke (p1 : Int32) (p2 : Int32) (p3 : Int32) (p4 : Int32) (u : MS) : Option (Int32 × MS) := (fX6_isAt p1 p2).bind fun r1 => ((if r1 = 0 then (some 1) else ((fX6_isAt p3 p4).bind fun r4 => if r4 = 0 then (some 1) else (gd (inb 296 303) (if (M_z u (296 : Int32).toNatClampNeg) = 4 then (some 2) else (some 0))))) : Option (Int32)).bind fun v3 => lt (M_s_thrown u v3) fun u5 => if (M_thrown u5) ≤ 0 then ((fX6_record u5).bind fun u6 => (fX6_begin 2 u6).bind fun (r7, u8) => (fX6_put r7 0 p1 p2 5 u8).bind fun u9 => (fX6_put r7 1 p3 p4 5 u9).bind fun u10 => some (r7, u10)) else (some (0, u5))
set_option maxRecDepth 100000 in
set_option maxHeartbeats 4000000 in
theorem kX6_stroke (l : Launch) (g : kG) (a : Nat → Nat) (p1 : Int32) (p2 : Int32) (p3 : Int32) (p4 : Int32) (u : MS) (o1 : Int32) (o2 : MS) (hm : fX6_stroke p1 p2 p3 p4 u = some (o1, o2)) : KM l yX6_stroke wsX6_stroke rX6_stroke g [.ref (a 0), .int p1, .int p2, .int p3, .int p4] (wM g a u) (some (.int o1)) (wM g a o2) 0 0 := by
  refine KM.of (nL := 6) (by decide) rfl (Nat.le_of_ble_eq_true rfl) ?_
  intro p e s m args below meth c A ls C X hl
  have C : CT g p s m args meth c RX6 cX6_stroke 6 (some .int) wsX6_stroke A := C
  have hx := C.1
  have hb := C.2.1
  have hl : lv_has ls 6 [(0, .ref (a 0)), (1, .int p1), (2, .int p2), (3, .int p3), (4, .int p4)] := hl
  have hinX6 := in_X6_stroke_X6
  have hf7 := C.2.2.2.2.2.1 _ fl_X6_stroke_7
  have hf35 := C.2.2.2.2.2.1 _ fl_X6_stroke_35
  rw [fX6_stroke] at hm
  refine lv_aload_n hx hb dX6_stroke_0 rfl (lv_at hl 0 rfl) ?_
  refine lv_iload_n hx hb dX6_stroke_1 rfl (lv_at hl 1 rfl) ?_
  refine lv_iload_n hx hb dX6_stroke_2 rfl (lv_at hl 2 rfl) ?_
  obtain ⟨r1, hcl, hm⟩ := bnd hm
  refine kS0 C X (kX6_isAt l g p1 p2 r1 hcl) (cw_X6_stroke_X6_isAt_124 C) (As := [.int p1, .int p2]) rfl hl (rest := [.ref (a 0)]) rfl (Nat.le_of_ble_eq_true rfl) (st2 := [.int r1, .ref (a 0)]) rfl dX6_stroke_3 ⟨Nat.le_of_ble_eq_true rfl, Nat.le_of_ble_eq_true rfl⟩ (fun H locs X => ?_)
  clear hcl
  obtain ⟨v3, hE, hm⟩ := bnd hm
  have K : ∀ (H : Heap) (locs : List Loc) (ls : Array Slot), ST g A s H locs (wM g a u) → lv_has ls 6 [(0, .ref (a 0)), (1, .int p1), (2, .int p2), (3, .int p3), (4, .int p4)] → W p l e rX6_stroke s m args below meth c H locs 0 0 (kEnd g below args s (some (.int o1)) (wM g a o2) A 0 0) (F0 m 39 ls [.int v3, .ref (a 0)]) := by
    intro H locs ls X hl
    clear hE
    obtain ⟨u5, eu⟩ : ∃ z, z = M_s_thrown u v3 := ⟨_, rfl⟩
    have hm := lt_t eu hm
    refine kput C X 0 (ci := 6) rfl rfl hinX6 tyX6_ok nmX6 0 (by decide) hf35 rfl (ty := .int) (v := .int v3) rfl rfl rfl (Nat.le_of_ble_eq_true rfl) (w2 := wM g a u5) (by subst eu; rfl) dX6_stroke_39 (fun H locs X => ?_)
    clear eu
    refine lv_aload_n hx hb dX6_stroke_42 rfl (lv_at hl 0 rfl) ?_
    refine kget C X 0 (ci := 6) rfl rfl hinX6 0 (by decide) hf35 (v := .int (M_thrown u5)) rfl dX6_stroke_43 ?_
    refine lv_if_le (tgt := 51) hx hb dX6_stroke_46 (by decide) (fun hc => ?_) (fun hc => ?_)
    · have hm := ifp hc hm
      refine lv_aload_n hx hb dX6_stroke_51 rfl (lv_at hl 0 rfl) ?_
      obtain ⟨u6, hcl, hm⟩ := bnd hm
      refine kVW C X (kX6_record l g a u5 u6 hcl) (cw_X6_stroke_X6_record_62 C) 0 (ci := 6) rfl rfl (As := []) rfl hl (rest := []) rfl (Nat.le_of_ble_eq_true rfl) (st2 := []) rfl dX6_stroke_52 ⟨Nat.le_of_ble_eq_true rfl, Nat.le_of_ble_eq_true rfl⟩ (fun H locs X => ?_)
      clear hcl
      refine lv_aload_n hx hb dX6_stroke_55 rfl (lv_at hl 0 rfl) ?_
      refine lv_iconst (v := 2) hx hb dX6_stroke_56 (by decide) ?_
      obtain ⟨⟨r7, u8⟩, hcl, hm⟩ := bnd hm
      refine kVW C X (kX6_begin l g a 2 u6 r7 u8 hcl) (cw_X6_stroke_X6_begin_127 C) 0 (ci := 6) rfl rfl (As := [.int 2]) rfl hl (rest := []) rfl (Nat.le_of_ble_eq_true rfl) (st2 := [.int r7]) rfl dX6_stroke_57 ⟨Nat.le_of_ble_eq_true rfl, Nat.le_of_ble_eq_true rfl⟩ (fun H locs X => ?_)
      clear hcl
      refine lv_istore (lv' := [(5, .int r7), (0, .ref (a 0)), (1, .int p1), (2, .int p2), (3, .int p3), (4, .int p4)]) hx hb dX6_stroke_60 hl (by decide) rfl (fun ls hl => ?_)
      refine lv_aload_n hx hb dX6_stroke_62 rfl (lv_at hl 1 rfl) ?_
      refine lv_iload hx hb dX6_stroke_63 (lv_at hl 0 rfl) ?_
      refine lv_iconst (v := 0) hx hb dX6_stroke_65 (by decide) ?_
      refine lv_iload_n hx hb dX6_stroke_66 rfl (lv_at hl 2 rfl) ?_
      refine lv_iload_n hx hb dX6_stroke_67 rfl (lv_at hl 3 rfl) ?_
      refine lv_iconst (v := 5) hx hb dX6_stroke_68 (by decide) ?_
      obtain ⟨u9, hcl, hm⟩ := bnd hm
      refine kVW C X (kX6_put l g a r7 0 p1 p2 5 u8 u9 hcl) (cw_X6_stroke_X6_put_130 C) 0 (ci := 6) rfl rfl (As := [.int r7, .int 0, .int p1, .int p2, .int 5]) rfl hl (rest := []) rfl (Nat.le_of_ble_eq_true rfl) (st2 := []) rfl dX6_stroke_69 ⟨Nat.le_of_ble_eq_true rfl, Nat.le_of_ble_eq_true rfl⟩ (fun H locs X => ?_)
      clear hcl
      refine lv_aload_n hx hb dX6_stroke_72 rfl (lv_at hl 1 rfl) ?_
      refine lv_iload hx hb dX6_stroke_73 (lv_at hl 0 rfl) ?_
      refine lv_iconst (v := 1) hx hb dX6_stroke_75 (by decide) ?_
      refine lv_iload_n hx hb dX6_stroke_76 rfl (lv_at hl 4 rfl) ?_
      refine lv_iload hx hb dX6_stroke_77 (lv_at hl 5 rfl) ?_
      refine lv_iconst (v := 5) hx hb dX6_stroke_79 (by decide) ?_
      obtain ⟨u10, hcl, hm⟩ := bnd hm
      refine kVW C X (kX6_put l g a r7 1 p3 p4 5 u9 u10 hcl) (cw_X6_stroke_X6_put_130 C) 0 (ci := 6) rfl rfl (As := [.int r7, .int 1, .int p3, .int p4, .int 5]) rfl hl (rest := []) rfl (Nat.le_of_ble_eq_true rfl) (st2 := []) rfl dX6_stroke_80 ⟨Nat.le_of_ble_eq_true rfl, Nat.le_of_ble_eq_true rfl⟩ (fun H locs X => ?_)
      clear hcl
      refine lv_iload hx hb dX6_stroke_83 (lv_at hl 0 rfl) ?_
      cases sm hm
      exact kiret C X dX6_stroke_85
    · have hm := ifn hc hm
      refine lv_iconst (v := 0) hx hb dX6_stroke_49 (by decide) ?_
      cases sm hm
      exact kiret C X dX6_stroke_50
  clear hm
  have hm := hE
  clear hE
  refine lv_if_eq (tgt := 18) hx hb dX6_stroke_6 (by decide) (fun hc => ?_) (fun hc => ?_)
  · have hm := ifp hc hm
    refine lv_iconst (v := 1) hx hb dX6_stroke_18 (by decide) ?_
    refine lv_goto (tgt := 39) hx hb dX6_stroke_19 (by decide) ?_
    cases sm hm
    exact K _ _ _ X (lv_sub hl [0, 1, 2, 3, 4] rfl)
  · have hm := ifn hc hm
    refine lv_iload_n hx hb dX6_stroke_9 rfl (lv_at hl 3 rfl) ?_
    refine lv_iload hx hb dX6_stroke_10 (lv_at hl 4 rfl) ?_
    obtain ⟨r4, hcl, hm⟩ := bnd hm
    refine kS0 C X (kX6_isAt l g p3 p4 r4 hcl) (cw_X6_stroke_X6_isAt_124 C) (As := [.int p3, .int p4]) rfl hl (rest := [.ref (a 0)]) rfl (Nat.le_of_ble_eq_true rfl) (st2 := [.int r4, .ref (a 0)]) rfl dX6_stroke_12 ⟨Nat.le_of_ble_eq_true rfl, Nat.le_of_ble_eq_true rfl⟩ (fun H locs X => ?_)
    clear hcl
    refine lv_if_ne (tgt := 22) hx hb dX6_stroke_15 (by decide) (fun hc => ?_) (fun hc => ?_)
    · have hm := ifn hc hm
      refine lv_aload_n hx hb dX6_stroke_22 rfl (lv_at hl 0 rfl) ?_
      refine kget C X 0 (ci := 6) rfl rfl hinX6 1 (by decide) hf7 (v := .ref (a 1)) rfl dX6_stroke_23 ?_
      refine lv_sipush (v := 296) hx hb dX6_stroke_26 (by decide) ?_
      obtain ⟨hgi, hm⟩ := gd_t hm
      refine kiald C X 1 rfl hgi dX6_stroke_29 ?_
      refine lv_iconst (v := 4) hx hb dX6_stroke_30 (by decide) ?_
      refine lv_icmp_ne (tgt := 38) hx hb dX6_stroke_31 (by decide) (fun hc => ?_) (fun hc => ?_)
      · have hm := ifn hc hm
        refine lv_iconst (v := 0) hx hb dX6_stroke_38 (by decide) ?_
        cases sm hm
        exact K _ _ _ X (lv_sub hl [0, 1, 2, 3, 4] rfl)
      · have hm := ifp hc hm
        refine lv_iconst (v := 2) hx hb dX6_stroke_34 (by decide) ?_
        refine lv_goto (tgt := 39) hx hb dX6_stroke_35 (by decide) ?_
        cases sm hm
        exact K _ _ _ X (lv_sub hl [0, 1, 2, 3, 4] rfl)
    · have hm := ifp hc hm
      refine lv_iconst (v := 1) hx hb dX6_stroke_18 (by decide) ?_
      refine lv_goto (tgt := 39) hx hb dX6_stroke_19 (by decide) ?_
      cases sm hm
      exact K _ _ _ X (lv_sub hl [0, 1, 2, 3, 4] rfl)
-- X6 BrushStrokesModel.sign()I
abbrev rX6_sign : Room := { frames := 0, cells := 0, slots := 0, locals := 0 }
theorem fl_X6_sign_141 : (Cond.fieldLink RX6 141 "BrushStrokesModel" "length" "I") ∈ wsX6_sign := by decide +kernel
theorem fl_X6_sign_166 : (Cond.fieldLink RX6 166 "BrushStrokesModel" "place" "I") ∈ wsX6_sign := by decide +kernel
theorem fl_X6_sign_23 : (Cond.fieldLink RX6 23 "BrushStrokesModel" "text" "[I") ∈ wsX6_sign := by decide +kernel
theorem in_X6_sign_X6 : ∀ w ∈ u_ws RX6 TX6 16, w ∈ wsX6_sign := by decide +kernel
noncomputable def fX6_sign (u : MS) : Option (Int32) := ((if (M_length u) ≤ (M_place u) then (some 0) else (gd (inb (M_place u) 70) (some (M_text u (M_place u).toNatClampNeg)))) : Option (Int32)).bind fun v1 => some v1
set_option maxRecDepth 100000 in
set_option maxHeartbeats 4000000 in
theorem kX6_sign (l : Launch) (g : kG) (a : Nat → Nat) (u : MS) (o1 : Int32) (hm : fX6_sign u = some o1) : KM l yX6_sign wsX6_sign rX6_sign g [.ref (a 0)] (wM g a u) (some (.int o1)) (wM g a u) 0 0 := by
  refine KM.of (nL := 1) (by decide) rfl (Nat.le_of_ble_eq_true rfl) ?_
  intro p e s m args below meth c A ls C X hl
  have C : CT g p s m args meth c RX6 cX6_sign 1 (some .int) wsX6_sign A := C
  have hx := C.1
  have hb := C.2.1
  have hl : lv_has ls 1 [(0, .ref (a 0))] := hl
  have hinX6 := in_X6_sign_X6
  have hf23 := C.2.2.2.2.2.1 _ fl_X6_sign_23
  have hf141 := C.2.2.2.2.2.1 _ fl_X6_sign_141
  have hf166 := C.2.2.2.2.2.1 _ fl_X6_sign_166
  rw [fX6_sign] at hm
  refine lv_aload_n hx hb dX6_sign_0 rfl (lv_at hl 0 rfl) ?_
  refine kget C X 0 (ci := 6) rfl rfl hinX6 14 (by decide) hf166 (v := .int (M_place u)) rfl dX6_sign_1 ?_
  refine lv_aload_n hx hb dX6_sign_4 rfl (lv_at hl 0 rfl) ?_
  refine kget C X 0 (ci := 6) rfl rfl hinX6 7 (by decide) hf141 (v := .int (M_length u)) rfl dX6_sign_5 ?_
  obtain ⟨v1, hE, hm⟩ := bnd hm
  have K : ∀ (H : Heap) (locs : List Loc) (ls : Array Slot), ST g A s H locs (wM g a u) → lv_has ls 1 [] → W p l e rX6_sign s m args below meth c H locs 0 0 (kEnd g below args s (some (.int o1)) (wM g a u) A 0 0) (F0 m 24 ls [.int v1]) := by
    intro H locs ls X hl
    clear hE
    cases sm hm
    exact kiret C X dX6_sign_24
  clear hm
  have hm := hE
  clear hE
  refine lv_icmp_ge (tgt := 23) hx hb dX6_sign_8 (by decide) (fun hc => ?_) (fun hc => ?_)
  · have hm := ifp hc hm
    refine lv_iconst (v := 0) hx hb dX6_sign_23 (by decide) ?_
    cases sm hm
    exact K _ _ _ X (lv_sub hl [] rfl)
  · have hm := ifn hc hm
    refine lv_aload_n hx hb dX6_sign_11 rfl (lv_at hl 0 rfl) ?_
    refine kget C X 0 (ci := 6) rfl rfl hinX6 6 (by decide) hf23 (v := .ref (a 5)) rfl dX6_sign_12 ?_
    refine lv_aload_n hx hb dX6_sign_15 rfl (lv_at hl 0 rfl) ?_
    refine kget C X 0 (ci := 6) rfl rfl hinX6 14 (by decide) hf166 (v := .int (M_place u)) rfl dX6_sign_16 ?_
    obtain ⟨hgi, hm⟩ := gd_t hm
    refine kiald C X 5 rfl hgi dX6_sign_19 ?_
    refine lv_goto (tgt := 24) hx hb dX6_sign_20 (by decide) ?_
    cases sm hm
    exact K _ _ _ X (lv_sub hl [] rfl)
-- X6 BrushStrokesModel.take(Z)V
abbrev rX6_take : Room := { frames := 0, cells := 0, slots := 0, locals := 0 }
theorem fl_X6_take_166 : (Cond.fieldLink RX6 166 "BrushStrokesModel" "place" "I") ∈ wsX6_take := by decide +kernel
theorem fl_X6_take_169 : (Cond.fieldLink RX6 169 "BrushStrokesModel" "isWrong" "Z") ∈ wsX6_take := by decide +kernel
theorem in_X6_take_X6 : ∀ w ∈ u_ws RX6 TX6 16, w ∈ wsX6_take := by decide +kernel
noncomputable def fX6_take (p1 : Int32) (u : MS) : Option (MS) := ((if (M_isWrong u) = 0 then (if p1 = 0 then (some 1) else (some 0)) else (some 1)) : Option (Int32)).bind fun v1 => gd (isb v1) (lt (M_s_isWrong u v1) fun u2 => ((if (M_isWrong u2) = 0 then (some 1) else (some 0)) : Option (Int32)).bind fun v3 => lt (M_s_place u2 ((M_place u2) + v3)) fun u4 => some u4)
set_option maxRecDepth 100000 in
set_option maxHeartbeats 4000000 in
theorem kX6_take (l : Launch) (g : kG) (a : Nat → Nat) (p1 : Int32) (u : MS) (o1 : MS) (hm : fX6_take p1 u = some o1) : KM l yX6_take wsX6_take rX6_take g [.ref (a 0), .int p1] (wM g a u) none (wM g a o1) 0 0 := by
  refine KM.of (nL := 2) (by decide) rfl (Nat.le_of_ble_eq_true rfl) ?_
  intro p e s m args below meth c A ls C X hl
  have C : CT g p s m args meth c RX6 cX6_take 2 none wsX6_take A := C
  have hx := C.1
  have hb := C.2.1
  have hl : lv_has ls 2 [(0, .ref (a 0)), (1, .int p1)] := hl
  have hinX6 := in_X6_take_X6
  have hf166 := C.2.2.2.2.2.1 _ fl_X6_take_166
  have hf169 := C.2.2.2.2.2.1 _ fl_X6_take_169
  rw [fX6_take] at hm
  refine lv_aload_n hx hb dX6_take_0 rfl (lv_at hl 0 rfl) ?_
  refine lv_aload_n hx hb dX6_take_1 rfl (lv_at hl 0 rfl) ?_
  refine kget C X 0 (ci := 6) rfl rfl hinX6 15 (by decide) hf169 (v := .int (M_isWrong u)) rfl dX6_take_2 ?_
  obtain ⟨v1, hE, hm⟩ := bnd hm
  have K : ∀ (H : Heap) (locs : List Loc) (ls : Array Slot), ST g A s H locs (wM g a u) → lv_has ls 2 [(0, .ref (a 0))] → W p l e rX6_take s m args below meth c H locs 0 0 (kEnd g below args s none (wM g a o1) A 0 0) (F0 m 17 ls [.int v1, .ref (a 0)]) := by
    intro H locs ls X hl
    clear hE
    obtain ⟨hgb, hm⟩ := gd_t hm
    obtain ⟨u2, eu⟩ : ∃ z, z = M_s_isWrong u v1 := ⟨_, rfl⟩
    have hm := lt_t eu hm
    refine kput C X 0 (ci := 6) rfl rfl hinX6 tyX6_ok nmX6 15 (by decide) hf169 rfl (ty := .boolean) (v := .int v1) rfl (isb_n hgb) (isb_f hgb) (Nat.le_of_ble_eq_true rfl) (w2 := wM g a u2) (by subst eu; rfl) dX6_take_17 (fun H locs X => ?_)
    clear eu
    refine lv_aload_n hx hb dX6_take_20 rfl (lv_at hl 0 rfl) ?_
    refine lv_dup hx hb dX6_take_21 rfl ?_
    refine kget C X 0 (ci := 6) rfl rfl hinX6 14 (by decide) hf166 (v := .int (M_place u2)) rfl dX6_take_22 ?_
    refine lv_aload_n hx hb dX6_take_25 rfl (lv_at hl 0 rfl) ?_
    refine kget C X 0 (ci := 6) rfl rfl hinX6 15 (by decide) hf169 (v := .int (M_isWrong u2)) rfl dX6_take_26 ?_
    obtain ⟨v3, hE, hm⟩ := bnd hm
    have K : ∀ (H : Heap) (locs : List Loc) (ls : Array Slot), ST g A s H locs (wM g a u2) → lv_has ls 2 [] → W p l e rX6_take s m args below meth c H locs 0 0 (kEnd g below args s none (wM g a o1) A 0 0) (F0 m 37 ls [.int v3, .int (M_place u2), .ref (a 0)]) := by
      intro H locs ls X hl
      clear hE
      refine lv_iadd hx hb dX6_take_37 ?_
      obtain ⟨u4, eu⟩ : ∃ z, z = M_s_place u2 ((M_place u2) + v3) := ⟨_, rfl⟩
      have hm := lt_t eu hm
      refine kput C X 0 (ci := 6) rfl rfl hinX6 tyX6_ok nmX6 14 (by decide) hf166 rfl (ty := .int) (v := .int ((M_place u2) + v3)) rfl rfl rfl (Nat.le_of_ble_eq_true rfl) (w2 := wM g a u4) (by subst eu; rfl) dX6_take_38 (fun H locs X => ?_)
      clear eu
      cases sm hm
      exact kvret C X dX6_take_41
    clear hm
    have hm := hE
    clear hE
    refine lv_if_eq (tgt := 36) hx hb dX6_take_29 (by decide) (fun hc => ?_) (fun hc => ?_)
    · have hm := ifp hc hm
      refine lv_iconst (v := 1) hx hb dX6_take_36 (by decide) ?_
      cases sm hm
      exact K _ _ _ X (lv_sub hl [] rfl)
    · have hm := ifn hc hm
      refine lv_iconst (v := 0) hx hb dX6_take_32 (by decide) ?_
      refine lv_goto (tgt := 37) hx hb dX6_take_33 (by decide) ?_
      cases sm hm
      exact K _ _ _ X (lv_sub hl [] rfl)
  clear hm
  have hm := hE
  clear hE
  refine lv_if_ne (tgt := 12) hx hb dX6_take_5 (by decide) (fun hc => ?_) (fun hc => ?_)
  · have hm := ifn hc hm
    refine lv_iconst (v := 1) hx hb dX6_take_12 (by decide) ?_
    refine lv_goto (tgt := 17) hx hb dX6_take_13 (by decide) ?_
    cases sm hm
    exact K _ _ _ X (lv_sub hl [0] rfl)
  · have hm := ifp hc hm
    refine lv_iload_n hx hb dX6_take_8 rfl (lv_at hl 1 rfl) ?_
    refine lv_if_ne (tgt := 16) hx hb dX6_take_9 (by decide) (fun hc => ?_) (fun hc => ?_)
    · have hm := ifn hc hm
      refine lv_iconst (v := 0) hx hb dX6_take_16 (by decide) ?_
      cases sm hm
      exact K _ _ _ X (lv_sub hl [0] rfl)
    · have hm := ifp hc hm
      refine lv_iconst (v := 1) hx hb dX6_take_12 (by decide) ?_
      refine lv_goto (tgt := 17) hx hb dX6_take_13 (by decide) ?_
      cases sm hm
      exact K _ _ _ X (lv_sub hl [0] rfl)
-- X6 BrushStrokesModel.takeNumber(II)I
abbrev rX6_takeNumber : Room := { frames := 1, cells := 0, slots := 0, locals := 22 }
theorem fl_X6_takeNumber_166 : (Cond.fieldLink RX6 166 "BrushStrokesModel" "place" "I") ∈ wsX6_takeNumber := by decide +kernel
theorem fl_X6_takeNumber_169 : (Cond.fieldLink RX6 169 "BrushStrokesModel" "isWrong" "Z") ∈ wsX6_takeNumber := by decide +kernel
theorem in_X6_takeNumber_X6 : ∀ w ∈ u_ws RX6 TX6 16, w ∈ wsX6_takeNumber := by decide +kernel
theorem cw_X6_takeNumber_X6_sign_173 {p : Program} {s : State} {m : MethodId} {args : Array Value} {meth : Method} {c : Code} {g : kG} {A : Nat → Prop} (C : CT g p s m args meth c RX6 cX6_takeNumber 4 (some .int) wsX6_takeNumber A) : CallW rX6_takeNumber s args RX6 RX6 173 yX6_sign cX6_sign 1 (some .int) wsX6_sign rX6_sign 0 0 0 := cwV 0 C.2.2.2.2.2.1 gX6_takeNumber_X6_sign rfl rfl rfl (by decide +kernel) ⟨Nat.le_of_ble_eq_true rfl, Nat.le_of_ble_eq_true rfl⟩
theorem cw_X6_takeNumber_X6_in_39 {p : Program} {s : State} {m : MethodId} {args : Array Value} {meth : Method} {c : Code} {g : kG} {A : Nat → Prop} (C : CT g p s m args meth c RX6 cX6_takeNumber 4 (some .int) wsX6_takeNumber A) : CallB rX6_takeNumber s args RX6 39 yX6_in cX6_in 3 (some .boolean) wsX6_in rX6_in 0 0 3 ∧ (Cond.static yX6_in).before args s = true := cwS 3 C.2.2.2.2.2.1 gX6_takeNumber_X6_in rfl rfl rfl (by decide +kernel) ⟨Nat.le_of_ble_eq_true rfl, Nat.le_of_ble_eq_true rfl⟩
theorem cw_X6_takeNumber_X6_take_176 {p : Program} {s : State} {m : MethodId} {args : Array Value} {meth : Method} {c : Code} {g : kG} {A : Nat → Prop} (C : CT g p s m args meth c RX6 cX6_takeNumber 4 (some .int) wsX6_takeNumber A) : CallW rX6_takeNumber s args RX6 RX6 176 yX6_take cX6_take 2 none wsX6_take rX6_take 0 0 1 := cwV 1 C.2.2.2.2.2.1 gX6_takeNumber_X6_take rfl rfl rfl (by decide +kernel) ⟨Nat.le_of_ble_eq_true rfl, Nat.le_of_ble_eq_true rfl⟩
noncomputable def bX6_takeNumber_19 (c4 : Int32) : Int32 × MS → Option ((Int32 × MS) ⊕ (Int32 × MS))
  | (x5, u6) => if (M_isWrong u6) = 0 then (if x5 ≤ 0 then (some (.inr (x5, u6))) else ((fX6_sign u6).bind fun r9 => (fX6_in r9 48 57).bind fun r10 => if r10 = 0 then (some (.inr (x5, u6))) else ((fX6_sign u6).bind fun r11 => if c4 < (((10 * x5) + r11) - 48) then (some (.inr (x5, u6))) else ((fX6_sign u6).bind fun r12 => lt (M_s_place u6 ((M_place u6) + 1)) fun u13 => some (.inl (((10 * x5) + r12) - 48, u13)))))) else (some (.inr (x5, u6)))
noncomputable def lX6_takeNumber_19 (c4 : Int32) (x5 : Int32) (u6 : MS) : Option (Int32 × MS) := lp (bX6_takeNumber_19 c4) (x5, u6)
theorem lX6_takeNumber_19_eq (c4 : Int32) (x5 : Int32) (u6 : MS) : lX6_takeNumber_19 c4 x5 u6 = (if (M_isWrong u6) = 0 then (if x5 ≤ 0 then (some (.inr (x5, u6))) else ((fX6_sign u6).bind fun r9 => (fX6_in r9 48 57).bind fun r10 => if r10 = 0 then (some (.inr (x5, u6))) else ((fX6_sign u6).bind fun r11 => if c4 < (((10 * x5) + r11) - 48) then (some (.inr (x5, u6))) else ((fX6_sign u6).bind fun r12 => lt (M_s_place u6 ((M_place u6) + 1)) fun u13 => some (.inl (((10 * x5) + r12) - 48, u13)))))) else (some (.inr (x5, u6)))).bind fun r => Sum.elim (fun z => lX6_takeNumber_19 c4 z.1 z.2) (fun r => some r) r := lp_eq (bX6_takeNumber_19 c4) (x5, u6)
set_option maxRecDepth 100000 in
set_option maxHeartbeats 4000000 in
theorem tX6_takeNumber_19 {p : Program} {l : Launch} {e : Env} {s : State} {m : MethodId} {args : Array Value} {below : List Frame} {meth : Method} {c : Code} {g : kG} {A : Nat → Prop} {Q : State → Prop} (a : Nat → Nat) (C : CT g p s m args meth c RX6 cX6_takeNumber 4 (some .int) wsX6_takeNumber A) (c4 : Int32) (y7 : Int32) (u8 : MS) (kk : ∀ (H : Heap) (locs : List Loc) (ls : Array Slot), ST g A s H locs (wM g a u8) → lv_has ls 4 [(3, .int y7)] → W p l e rX6_takeNumber s m args below meth c H locs 0 0 Q (F0 m 86 ls [])) : ∀ (n : Nat) (x5 : Int32) (u6 : MS), whl (bX6_takeNumber_19 c4) n (x5, u6) = some (y7, u8) → ∀ (H : Heap) (locs : List Loc) (ls : Array Slot), ST g A s H locs (wM g a u6) → lv_has ls 4 [(0, .ref (a 0)), (2, .int c4), (3, .int x5)] → W p l e rX6_takeNumber s m args below meth c H locs 0 0 Q (F0 m 19 ls []) := by
  have hx := C.1
  have hb := C.2.1
  have hinX6 := in_X6_takeNumber_X6
  have hf166 := C.2.2.2.2.2.1 _ fl_X6_takeNumber_166
  have hf169 := C.2.2.2.2.2.1 _ fl_X6_takeNumber_169
  intro n
  induction n with
  | zero =>
    intro x5 u6 hm
    cases hm
  | succ n ih =>
    intro x5 u6 hm H locs ls X hl
    rw [whl] at hm
    obtain ⟨q, hq, hm2⟩ := bnd hm
    clear hm
    have hm := hq
    clear hq
    rw [bX6_takeNumber_19] at hm
    refine lv_aload_n hx hb dX6_takeNumber_19 rfl (lv_at hl 0 rfl) ?_
    refine kget C X 0 (ci := 6) rfl rfl hinX6 15 (by decide) hf169 (v := .int (M_isWrong u6)) rfl dX6_takeNumber_20 ?_
    refine lv_if_ne (tgt := 86) hx hb dX6_takeNumber_23 (by decide) (fun hc => ?_) (fun hc => ?_)
    · have hm := ifn hc hm
      cases sm hm
      cases sm hm2
      exact kk _ _ _ X (lv_sub hl [2] rfl)
    · have hm := ifp hc hm
      refine lv_iload_n hx hb dX6_takeNumber_26 rfl (lv_at hl 2 rfl) ?_
      refine lv_if_le (tgt := 86) hx hb dX6_takeNumber_27 (by decide) (fun hc => ?_) (fun hc => ?_)
      · have hm := ifp hc hm
        cases sm hm
        cases sm hm2
        exact kk _ _ _ X (lv_sub hl [2] rfl)
      · have hm := ifn hc hm
        refine lv_aload_n hx hb dX6_takeNumber_30 rfl (lv_at hl 0 rfl) ?_
        obtain ⟨r9, hcl, hm⟩ := bnd hm
        refine kVW C X (kX6_sign l g a u6 r9 hcl) (cw_X6_takeNumber_X6_sign_173 C) 0 (ci := 6) rfl rfl (As := []) rfl hl (rest := []) rfl (Nat.le_of_ble_eq_true rfl) (st2 := [.int r9]) rfl dX6_takeNumber_31 ⟨Nat.le_of_ble_eq_true rfl, Nat.le_of_ble_eq_true rfl⟩ (fun H locs X => ?_)
        clear hcl
        refine lv_bipush (v := 48) hx hb dX6_takeNumber_34 (by decide) ?_
        refine lv_bipush (v := 57) hx hb dX6_takeNumber_36 (by decide) ?_
        obtain ⟨r10, hcl, hm⟩ := bnd hm
        refine kS0 C X (kX6_in l g r9 48 57 r10 hcl) (cw_X6_takeNumber_X6_in_39 C) (As := [.int r9, .int 48, .int 57]) rfl hl (rest := []) rfl (Nat.le_of_ble_eq_true rfl) (st2 := [.int r10]) rfl dX6_takeNumber_38 ⟨Nat.le_of_ble_eq_true rfl, Nat.le_of_ble_eq_true rfl⟩ (fun H locs X => ?_)
        clear hcl
        refine lv_if_eq (tgt := 86) hx hb dX6_takeNumber_41 (by decide) (fun hc => ?_) (fun hc => ?_)
        · have hm := ifp hc hm
          cases sm hm
          cases sm hm2
          exact kk _ _ _ X (lv_sub hl [2] rfl)
        · have hm := ifn hc hm
          refine lv_bipush (v := 10) hx hb dX6_takeNumber_44 (by decide) ?_
          refine lv_iload_n hx hb dX6_takeNumber_46 rfl (lv_at hl 2 rfl) ?_
          refine lv_imul hx hb dX6_takeNumber_47 ?_
          refine lv_aload_n hx hb dX6_takeNumber_48 rfl (lv_at hl 0 rfl) ?_
          obtain ⟨r11, hcl, hm⟩ := bnd hm
          refine kVW C X (kX6_sign l g a u6 r11 hcl) (cw_X6_takeNumber_X6_sign_173 C) 0 (ci := 6) rfl rfl (As := []) rfl hl (rest := [.int (10 * x5)]) rfl (Nat.le_of_ble_eq_true rfl) (st2 := [.int r11, .int (10 * x5)]) rfl dX6_takeNumber_49 ⟨Nat.le_of_ble_eq_true rfl, Nat.le_of_ble_eq_true rfl⟩ (fun H locs X => ?_)
          clear hcl
          refine lv_iadd hx hb dX6_takeNumber_52 ?_
          refine lv_bipush (v := 48) hx hb dX6_takeNumber_53 (by decide) ?_
          refine lv_isub hx hb dX6_takeNumber_55 ?_
          refine lv_iload_n hx hb dX6_takeNumber_56 rfl (lv_at hl 1 rfl) ?_
          refine lv_icmp_gt (tgt := 86) hx hb dX6_takeNumber_57 (by decide) (fun hc => ?_) (fun hc => ?_)
          · have hm := ifp hc hm
            cases sm hm
            cases sm hm2
            exact kk _ _ _ X (lv_sub hl [2] rfl)
          · have hm := ifn hc hm
            refine lv_bipush (v := 10) hx hb dX6_takeNumber_60 (by decide) ?_
            refine lv_iload_n hx hb dX6_takeNumber_62 rfl (lv_at hl 2 rfl) ?_
            refine lv_imul hx hb dX6_takeNumber_63 ?_
            refine lv_aload_n hx hb dX6_takeNumber_64 rfl (lv_at hl 0 rfl) ?_
            obtain ⟨r12, hcl, hm⟩ := bnd hm
            refine kVW C X (kX6_sign l g a u6 r12 hcl) (cw_X6_takeNumber_X6_sign_173 C) 0 (ci := 6) rfl rfl (As := []) rfl hl (rest := [.int (10 * x5)]) rfl (Nat.le_of_ble_eq_true rfl) (st2 := [.int r12, .int (10 * x5)]) rfl dX6_takeNumber_65 ⟨Nat.le_of_ble_eq_true rfl, Nat.le_of_ble_eq_true rfl⟩ (fun H locs X => ?_)
            clear hcl
            refine lv_iadd hx hb dX6_takeNumber_68 ?_
            refine lv_bipush (v := 48) hx hb dX6_takeNumber_69 (by decide) ?_
            refine lv_isub hx hb dX6_takeNumber_71 ?_
            refine lv_istore_n (lv' := [(3, .int (((10 * x5) + r12) - 48)), (0, .ref (a 0)), (2, .int c4)]) hx hb dX6_takeNumber_72 rfl hl (by decide) rfl (fun ls hl => ?_)
            refine lv_aload_n hx hb dX6_takeNumber_73 rfl (lv_at hl 1 rfl) ?_
            refine lv_dup hx hb dX6_takeNumber_74 rfl ?_
            refine kget C X 0 (ci := 6) rfl rfl hinX6 14 (by decide) hf166 (v := .int (M_place u6)) rfl dX6_takeNumber_75 ?_
            refine lv_iconst (v := 1) hx hb dX6_takeNumber_78 (by decide) ?_
            refine lv_iadd hx hb dX6_takeNumber_79 ?_
            obtain ⟨u13, eu⟩ : ∃ z, z = M_s_place u6 ((M_place u6) + 1) := ⟨_, rfl⟩
            have hm := lt_t eu hm
            refine kput C X 0 (ci := 6) rfl rfl hinX6 tyX6_ok nmX6 14 (by decide) hf166 rfl (ty := .int) (v := .int ((M_place u6) + 1)) rfl rfl rfl (Nat.le_of_ble_eq_true rfl) (w2 := wM g a u13) (by subst eu; rfl) dX6_takeNumber_80 (fun H locs X => ?_)
            clear eu
            refine lv_goto (tgt := 19) hx hb dX6_takeNumber_83 (by decide) ?_
            cases sm hm
            exact ih _ _ hm2 _ _ _ X (lv_sub hl [1, 2, 0] rfl)
noncomputable def fX6_takeNumber (p1 : Int32) (p2 : Int32) (u : MS) : Option (Int32 × MS) := (fX6_sign u).bind fun r1 => (fX6_in (r1 - 48) p1 9).bind fun r2 => (fX6_take r2 u).bind fun u3 => (lX6_takeNumber_19 p2 (r1 - 48) u3).bind fun (y14, u15) => some (y14, u15)
set_option maxRecDepth 100000 in
set_option maxHeartbeats 4000000 in
theorem kX6_takeNumber (l : Launch) (g : kG) (a : Nat → Nat) (p1 : Int32) (p2 : Int32) (u : MS) (o1 : Int32) (o2 : MS) (hm : fX6_takeNumber p1 p2 u = some (o1, o2)) : KM l yX6_takeNumber wsX6_takeNumber rX6_takeNumber g [.ref (a 0), .int p1, .int p2] (wM g a u) (some (.int o1)) (wM g a o2) 0 0 := by
  refine KM.of (nL := 4) (by decide) rfl (Nat.le_of_ble_eq_true rfl) ?_
  intro p e s m args below meth c A ls C X hl
  have C : CT g p s m args meth c RX6 cX6_takeNumber 4 (some .int) wsX6_takeNumber A := C
  have hx := C.1
  have hb := C.2.1
  have hl : lv_has ls 4 [(0, .ref (a 0)), (1, .int p1), (2, .int p2)] := hl
  rw [fX6_takeNumber] at hm
  refine lv_aload_n hx hb dX6_takeNumber_0 rfl (lv_at hl 0 rfl) ?_
  obtain ⟨r1, hcl, hm⟩ := bnd hm
  refine kVW C X (kX6_sign l g a u r1 hcl) (cw_X6_takeNumber_X6_sign_173 C) 0 (ci := 6) rfl rfl (As := []) rfl hl (rest := []) rfl (Nat.le_of_ble_eq_true rfl) (st2 := [.int r1]) rfl dX6_takeNumber_1 ⟨Nat.le_of_ble_eq_true rfl, Nat.le_of_ble_eq_true rfl⟩ (fun H locs X => ?_)
  clear hcl
  refine lv_bipush (v := 48) hx hb dX6_takeNumber_4 (by decide) ?_
  refine lv_isub hx hb dX6_takeNumber_6 ?_
  refine lv_istore_n (lv' := [(3, .int (r1 - 48)), (0, .ref (a 0)), (1, .int p1), (2, .int p2)]) hx hb dX6_takeNumber_7 rfl hl (by decide) rfl (fun ls hl => ?_)
  refine lv_aload_n hx hb dX6_takeNumber_8 rfl (lv_at hl 1 rfl) ?_
  refine lv_iload_n hx hb dX6_takeNumber_9 rfl (lv_at hl 0 rfl) ?_
  refine lv_iload_n hx hb dX6_takeNumber_10 rfl (lv_at hl 2 rfl) ?_
  refine lv_bipush (v := 9) hx hb dX6_takeNumber_11 (by decide) ?_
  obtain ⟨r2, hcl, hm⟩ := bnd hm
  refine kS0 C X (kX6_in l g (r1 - 48) p1 9 r2 hcl) (cw_X6_takeNumber_X6_in_39 C) (As := [.int (r1 - 48), .int p1, .int 9]) rfl hl (rest := [.ref (a 0)]) rfl (Nat.le_of_ble_eq_true rfl) (st2 := [.int r2, .ref (a 0)]) rfl dX6_takeNumber_13 ⟨Nat.le_of_ble_eq_true rfl, Nat.le_of_ble_eq_true rfl⟩ (fun H locs X => ?_)
  clear hcl
  obtain ⟨u3, hcl, hm⟩ := bnd hm
  refine kVW C X (kX6_take l g a r2 u u3 hcl) (cw_X6_takeNumber_X6_take_176 C) 0 (ci := 6) rfl rfl (As := [.int r2]) rfl hl (rest := []) rfl (Nat.le_of_ble_eq_true rfl) (st2 := []) rfl dX6_takeNumber_16 ⟨Nat.le_of_ble_eq_true rfl, Nat.le_of_ble_eq_true rfl⟩ (fun H locs X => ?_)
  clear hcl
  obtain ⟨⟨y14, u15⟩, hL, hm⟩ := bnd hm
  obtain ⟨nn, hn⟩ := lp_run hL
  refine tX6_takeNumber_19 a C p2 y14 u15 (fun H locs ls X hl => ?_) nn _ _ hn _ _ _ X (lv_sub hl [1, 3, 0] rfl)
  clear hL hn
  refine lv_iload_n hx hb dX6_takeNumber_86 rfl (lv_at hl 0 rfl) ?_
  cases sm hm
  exact kiret C X dX6_takeNumber_87
-- X6 BrushStrokesModel.takePoint()V
abbrev rX6_takePoint : Room := { frames := 2, cells := 0, slots := 0, locals := 45 }
theorem fl_X6_takePoint_138 : (Cond.fieldLink RX6 138 "BrushStrokesModel" "reads" "I") ∈ wsX6_takePoint := by decide +kernel
theorem fl_X6_takePoint_166 : (Cond.fieldLink RX6 166 "BrushStrokesModel" "place" "I") ∈ wsX6_takePoint := by decide +kernel
theorem fl_X6_takePoint_169 : (Cond.fieldLink RX6 169 "BrushStrokesModel" "isWrong" "Z") ∈ wsX6_takePoint := by decide +kernel
theorem fl_X6_takePoint_32 : (Cond.fieldLink RX6 32 "BrushStrokesModel" "read" "[I") ∈ wsX6_takePoint := by decide +kernel
theorem in_X6_takePoint_X6 : ∀ w ∈ u_ws RX6 TX6 16, w ∈ wsX6_takePoint := by decide +kernel
theorem cw_X6_takePoint_X6_sign_173 {p : Program} {s : State} {m : MethodId} {args : Array Value} {meth : Method} {c : Code} {g : kG} {A : Nat → Prop} (C : CT g p s m args meth c RX6 cX6_takePoint 4 none wsX6_takePoint A) : CallW rX6_takePoint s args RX6 RX6 173 yX6_sign cX6_sign 1 (some .int) wsX6_sign rX6_sign 0 0 0 := cwV 0 C.2.2.2.2.2.1 gX6_takePoint_X6_sign rfl rfl rfl (by decide +kernel) ⟨Nat.le_of_ble_eq_true rfl, Nat.le_of_ble_eq_true rfl⟩
theorem cw_X6_takePoint_X6_take_176 {p : Program} {s : State} {m : MethodId} {args : Array Value} {meth : Method} {c : Code} {g : kG} {A : Nat → Prop} (C : CT g p s m args meth c RX6 cX6_takePoint 4 none wsX6_takePoint A) : CallW rX6_takePoint s args RX6 RX6 176 yX6_take cX6_take 2 none wsX6_take rX6_take 0 0 1 := cwV 1 C.2.2.2.2.2.1 gX6_takePoint_X6_take rfl rfl rfl (by decide +kernel) ⟨Nat.le_of_ble_eq_true rfl, Nat.le_of_ble_eq_true rfl⟩
theorem cw_X6_takePoint_X6_takeNumber_180 {p : Program} {s : State} {m : MethodId} {args : Array Value} {meth : Method} {c : Code} {g : kG} {A : Nat → Prop} (C : CT g p s m args meth c RX6 cX6_takePoint 4 none wsX6_takePoint A) : CallW rX6_takePoint s args RX6 RX6 180 yX6_takeNumber cX6_takeNumber 4 (some .int) wsX6_takeNumber rX6_takeNumber 0 0 2 := cwV 2 C.2.2.2.2.2.1 gX6_takePoint_X6_takeNumber rfl rfl rfl (by decide +kernel) ⟨Nat.le_of_ble_eq_true rfl, Nat.le_of_ble_eq_true rfl⟩
noncomputable def fX6_takePoint (u : MS) : Option (MS) := (fX6_takeNumber 0 99 u).bind fun (r1, u2) => (fX6_sign u2).bind fun r3 => ((if r3 = 44 then (some 1) else (some 0)) : Option (Int32)).bind fun v4 => (fX6_take v4 u2).bind fun u5 => ((if (M_isWrong u5) = 0 then ((fX6_takeNumber 0 99 u5).bind fun (r10, u11) => some (r10, u11)) else (some (0, u5))) : Option (Int32 × MS)).bind fun (v8, u9) => ((if (M_isWrong u9) = 0 then ((fX6_sign u9).bind fun r18 => if r18 = 119 then (lt (M_s_place u9 ((M_place u9) + 1)) fun u19 => (fX6_takeNumber 1 20 u19).bind fun (r20, u21) => some (r20, u21)) else (some (5, u9))) else (some (5, u9))) : Option (Int32 × MS)).bind fun (v16, u17) => ((if (M_isWrong u17) = 0 then (gd (inb (3 * (M_reads u17)) 72) (lt (M_s_read u17 (upd (M_read u17) (3 * (M_reads u17)).toNatClampNeg r1)) fun u27 => gd (inb ((3 * (M_reads u27)) + 1) 72) (lt (M_s_read u27 (upd (M_read u27) ((3 * (M_reads u27)) + 1).toNatClampNeg v8)) fun u28 => gd (inb ((3 * (M_reads u28)) + 2) 72) (lt (M_s_read u28 (upd (M_read u28) ((3 * (M_reads u28)) + 2).toNatClampNeg v16)) fun u29 => lt (M_s_reads u29 ((M_reads u29) + 1)) fun u30 => some u30)))) else (some u17)) : Option (MS)).bind fun u26 => some u26
set_option maxRecDepth 100000 in
set_option maxHeartbeats 4000000 in
theorem kX6_takePoint (l : Launch) (g : kG) (a : Nat → Nat) (u : MS) (o1 : MS) (hm : fX6_takePoint u = some o1) : KM l yX6_takePoint wsX6_takePoint rX6_takePoint g [.ref (a 0)] (wM g a u) none (wM g a o1) 0 0 := by
  refine KM.of (nL := 4) (by decide) rfl (Nat.le_of_ble_eq_true rfl) ?_
  intro p e s m args below meth c A ls C X hl
  have C : CT g p s m args meth c RX6 cX6_takePoint 4 none wsX6_takePoint A := C
  have hx := C.1
  have hb := C.2.1
  have hl : lv_has ls 4 [(0, .ref (a 0))] := hl
  have hinX6 := in_X6_takePoint_X6
  have hf32 := C.2.2.2.2.2.1 _ fl_X6_takePoint_32
  have hf138 := C.2.2.2.2.2.1 _ fl_X6_takePoint_138
  have hf166 := C.2.2.2.2.2.1 _ fl_X6_takePoint_166
  have hf169 := C.2.2.2.2.2.1 _ fl_X6_takePoint_169
  rw [fX6_takePoint] at hm
  refine lv_aload_n hx hb dX6_takePoint_0 rfl (lv_at hl 0 rfl) ?_
  refine lv_iconst (v := 0) hx hb dX6_takePoint_1 (by decide) ?_
  refine lv_bipush (v := 99) hx hb dX6_takePoint_2 (by decide) ?_
  obtain ⟨⟨r1, u2⟩, hcl, hm⟩ := bnd hm
  refine kVW C X (kX6_takeNumber l g a 0 99 u r1 u2 hcl) (cw_X6_takePoint_X6_takeNumber_180 C) 0 (ci := 6) rfl rfl (As := [.int 0, .int 99]) rfl hl (rest := []) rfl (Nat.le_of_ble_eq_true rfl) (st2 := [.int r1]) rfl dX6_takePoint_4 ⟨Nat.le_of_ble_eq_true rfl, Nat.le_of_ble_eq_true rfl⟩ (fun H locs X => ?_)
  clear hcl
  refine lv_istore_n (lv' := [(1, .int r1), (0, .ref (a 0))]) hx hb dX6_takePoint_7 rfl hl (by decide) rfl (fun ls hl => ?_)
  refine lv_aload_n hx hb dX6_takePoint_8 rfl (lv_at hl 1 rfl) ?_
  refine lv_aload_n hx hb dX6_takePoint_9 rfl (lv_at hl 1 rfl) ?_
  obtain ⟨r3, hcl, hm⟩ := bnd hm
  refine kVW C X (kX6_sign l g a u2 r3 hcl) (cw_X6_takePoint_X6_sign_173 C) 0 (ci := 6) rfl rfl (As := []) rfl hl (rest := [.ref (a 0)]) rfl (Nat.le_of_ble_eq_true rfl) (st2 := [.int r3, .ref (a 0)]) rfl dX6_takePoint_10 ⟨Nat.le_of_ble_eq_true rfl, Nat.le_of_ble_eq_true rfl⟩ (fun H locs X => ?_)
  clear hcl
  refine lv_bipush (v := 44) hx hb dX6_takePoint_13 (by decide) ?_
  obtain ⟨v4, hE, hm⟩ := bnd hm
  have K : ∀ (H : Heap) (locs : List Loc) (ls : Array Slot), ST g A s H locs (wM g a u2) → lv_has ls 4 [(0, .ref (a 0)), (1, .int r1)] → W p l e rX6_takePoint s m args below meth c H locs 0 0 (kEnd g below args s none (wM g a o1) A 0 0) (F0 m 23 ls [.int v4, .ref (a 0)]) := by
    intro H locs ls X hl
    clear hE
    obtain ⟨u5, hcl, hm⟩ := bnd hm
    refine kVW C X (kX6_take l g a v4 u2 u5 hcl) (cw_X6_takePoint_X6_take_176 C) 0 (ci := 6) rfl rfl (As := [.int v4]) rfl hl (rest := []) rfl (Nat.le_of_ble_eq_true rfl) (st2 := []) rfl dX6_takePoint_23 ⟨Nat.le_of_ble_eq_true rfl, Nat.le_of_ble_eq_true rfl⟩ (fun H locs X => ?_)
    clear hcl
    refine lv_aload_n hx hb dX6_takePoint_26 rfl (lv_at hl 0 rfl) ?_
    refine kget C X 0 (ci := 6) rfl rfl hinX6 15 (by decide) hf169 (v := .int (M_isWrong u5)) rfl dX6_takePoint_27 ?_
    obtain ⟨⟨v8, u9⟩, hE, hm⟩ := bnd hm
    have K : ∀ (H : Heap) (locs : List Loc) (ls : Array Slot), ST g A s H locs (wM g a u9) → lv_has ls 4 [(0, .ref (a 0)), (1, .int r1)] → W p l e rX6_takePoint s m args below meth c H locs 0 0 (kEnd g below args s none (wM g a o1) A 0 0) (F0 m 44 ls [.int v8]) := by
      intro H locs ls X hl
      clear hE
      refine lv_istore_n (lv' := [(2, .int v8), (0, .ref (a 0)), (1, .int r1)]) hx hb dX6_takePoint_44 rfl hl (by decide) rfl (fun ls hl => ?_)
      refine lv_iconst (v := 5) hx hb dX6_takePoint_45 (by decide) ?_
      refine lv_istore_n (lv' := [(3, .int 5), (2, .int v8), (0, .ref (a 0)), (1, .int r1)]) hx hb dX6_takePoint_46 rfl hl (by decide) rfl (fun ls hl => ?_)
      refine lv_aload_n hx hb dX6_takePoint_47 rfl (lv_at hl 2 rfl) ?_
      refine kget C X 0 (ci := 6) rfl rfl hinX6 15 (by decide) hf169 (v := .int (M_isWrong u9)) rfl dX6_takePoint_48 ?_
      obtain ⟨⟨v16, u17⟩, hE, hm⟩ := bnd hm
      have K : ∀ (H : Heap) (locs : List Loc) (ls : Array Slot), ST g A s H locs (wM g a u17) → lv_has ls 4 [(0, .ref (a 0)), (1, .int r1), (2, .int v8), (3, .int v16)] → W p l e rX6_takePoint s m args below meth c H locs 0 0 (kEnd g below args s none (wM g a o1) A 0 0) (F0 m 81 ls []) := by
        intro H locs ls X hl
        clear hE
        refine lv_aload_n hx hb dX6_takePoint_81 rfl (lv_at hl 0 rfl) ?_
        refine kget C X 0 (ci := 6) rfl rfl hinX6 15 (by decide) hf169 (v := .int (M_isWrong u17)) rfl dX6_takePoint_82 ?_
        obtain ⟨u26, hE, hm⟩ := bnd hm
        have K : ∀ (H : Heap) (locs : List Loc) (ls : Array Slot), ST g A s H locs (wM g a u26) → lv_has ls 4 [] → W p l e rX6_takePoint s m args below meth c H locs 0 0 (kEnd g below args s none (wM g a o1) A 0 0) (F0 m 138 ls []) := by
          intro H locs ls X hl
          clear hE
          cases sm hm
          exact kvret C X dX6_takePoint_138
        clear hm
        have hm := hE
        clear hE
        refine lv_if_ne (tgt := 138) hx hb dX6_takePoint_85 (by decide) (fun hc => ?_) (fun hc => ?_)
        · have hm := ifn hc hm
          cases sm hm
          exact K _ _ _ X (lv_sub hl [] rfl)
        · have hm := ifp hc hm
          refine lv_aload_n hx hb dX6_takePoint_88 rfl (lv_at hl 0 rfl) ?_
          refine kget C X 0 (ci := 6) rfl rfl hinX6 12 (by decide) hf32 (v := .ref (a 8)) rfl dX6_takePoint_89 ?_
          refine lv_iconst (v := 3) hx hb dX6_takePoint_92 (by decide) ?_
          refine lv_aload_n hx hb dX6_takePoint_93 rfl (lv_at hl 0 rfl) ?_
          refine kget C X 0 (ci := 6) rfl rfl hinX6 13 (by decide) hf138 (v := .int (M_reads u17)) rfl dX6_takePoint_94 ?_
          refine lv_imul hx hb dX6_takePoint_97 ?_
          refine lv_iload_n hx hb dX6_takePoint_98 rfl (lv_at hl 1 rfl) ?_
          obtain ⟨hgi, hm⟩ := gd_t hm
          obtain ⟨u27, eu⟩ : ∃ z, z = M_s_read u17 (upd (M_read u17) (3 * (M_reads u17)).toNatClampNeg r1) := ⟨_, rfl⟩
          have hm := lt_t eu hm
          refine kiast C X 8 rfl hgi (w2 := wM g a u27) (by subst eu; rfl) dX6_takePoint_99 (fun H locs X => ?_)
          clear eu
          refine lv_aload_n hx hb dX6_takePoint_100 rfl (lv_at hl 0 rfl) ?_
          refine kget C X 0 (ci := 6) rfl rfl hinX6 12 (by decide) hf32 (v := .ref (a 8)) rfl dX6_takePoint_101 ?_
          refine lv_iconst (v := 3) hx hb dX6_takePoint_104 (by decide) ?_
          refine lv_aload_n hx hb dX6_takePoint_105 rfl (lv_at hl 0 rfl) ?_
          refine kget C X 0 (ci := 6) rfl rfl hinX6 13 (by decide) hf138 (v := .int (M_reads u27)) rfl dX6_takePoint_106 ?_
          refine lv_imul hx hb dX6_takePoint_109 ?_
          refine lv_iconst (v := 1) hx hb dX6_takePoint_110 (by decide) ?_
          refine lv_iadd hx hb dX6_takePoint_111 ?_
          refine lv_iload_n hx hb dX6_takePoint_112 rfl (lv_at hl 2 rfl) ?_
          obtain ⟨hgi, hm⟩ := gd_t hm
          obtain ⟨u28, eu⟩ : ∃ z, z = M_s_read u27 (upd (M_read u27) ((3 * (M_reads u27)) + 1).toNatClampNeg v8) := ⟨_, rfl⟩
          have hm := lt_t eu hm
          refine kiast C X 8 rfl hgi (w2 := wM g a u28) (by subst eu; rfl) dX6_takePoint_113 (fun H locs X => ?_)
          clear eu
          refine lv_aload_n hx hb dX6_takePoint_114 rfl (lv_at hl 0 rfl) ?_
          refine kget C X 0 (ci := 6) rfl rfl hinX6 12 (by decide) hf32 (v := .ref (a 8)) rfl dX6_takePoint_115 ?_
          refine lv_iconst (v := 3) hx hb dX6_takePoint_118 (by decide) ?_
          refine lv_aload_n hx hb dX6_takePoint_119 rfl (lv_at hl 0 rfl) ?_
          refine kget C X 0 (ci := 6) rfl rfl hinX6 13 (by decide) hf138 (v := .int (M_reads u28)) rfl dX6_takePoint_120 ?_
          refine lv_imul hx hb dX6_takePoint_123 ?_
          refine lv_iconst (v := 2) hx hb dX6_takePoint_124 (by decide) ?_
          refine lv_iadd hx hb dX6_takePoint_125 ?_
          refine lv_iload_n hx hb dX6_takePoint_126 rfl (lv_at hl 3 rfl) ?_
          obtain ⟨hgi, hm⟩ := gd_t hm
          obtain ⟨u29, eu⟩ : ∃ z, z = M_s_read u28 (upd (M_read u28) ((3 * (M_reads u28)) + 2).toNatClampNeg v16) := ⟨_, rfl⟩
          have hm := lt_t eu hm
          refine kiast C X 8 rfl hgi (w2 := wM g a u29) (by subst eu; rfl) dX6_takePoint_127 (fun H locs X => ?_)
          clear eu
          refine lv_aload_n hx hb dX6_takePoint_128 rfl (lv_at hl 0 rfl) ?_
          refine lv_dup hx hb dX6_takePoint_129 rfl ?_
          refine kget C X 0 (ci := 6) rfl rfl hinX6 13 (by decide) hf138 (v := .int (M_reads u29)) rfl dX6_takePoint_130 ?_
          refine lv_iconst (v := 1) hx hb dX6_takePoint_133 (by decide) ?_
          refine lv_iadd hx hb dX6_takePoint_134 ?_
          obtain ⟨u30, eu⟩ : ∃ z, z = M_s_reads u29 ((M_reads u29) + 1) := ⟨_, rfl⟩
          have hm := lt_t eu hm
          refine kput C X 0 (ci := 6) rfl rfl hinX6 tyX6_ok nmX6 13 (by decide) hf138 rfl (ty := .int) (v := .int ((M_reads u29) + 1)) rfl rfl rfl (Nat.le_of_ble_eq_true rfl) (w2 := wM g a u30) (by subst eu; rfl) dX6_takePoint_135 (fun H locs X => ?_)
          clear eu
          cases sm hm
          exact K _ _ _ X (lv_sub hl [] rfl)
      clear hm
      have hm := hE
      clear hE
      refine lv_if_ne (tgt := 81) hx hb dX6_takePoint_51 (by decide) (fun hc => ?_) (fun hc => ?_)
      · have hm := ifn hc hm
        cases sm hm
        exact K _ _ _ X (lv_sub hl [2, 3, 1, 0] rfl)
      · have hm := ifp hc hm
        refine lv_aload_n hx hb dX6_takePoint_54 rfl (lv_at hl 2 rfl) ?_
        obtain ⟨r18, hcl, hm⟩ := bnd hm
        refine kVW C X (kX6_sign l g a u9 r18 hcl) (cw_X6_takePoint_X6_sign_173 C) 0 (ci := 6) rfl rfl (As := []) rfl hl (rest := []) rfl (Nat.le_of_ble_eq_true rfl) (st2 := [.int r18]) rfl dX6_takePoint_55 ⟨Nat.le_of_ble_eq_true rfl, Nat.le_of_ble_eq_true rfl⟩ (fun H locs X => ?_)
        clear hcl
        refine lv_bipush (v := 119) hx hb dX6_takePoint_58 (by decide) ?_
        refine lv_icmp_ne (tgt := 81) hx hb dX6_takePoint_60 (by decide) (fun hc => ?_) (fun hc => ?_)
        · have hm := ifn hc hm
          cases sm hm
          exact K _ _ _ X (lv_sub hl [2, 3, 1, 0] rfl)
        · have hm := ifp hc hm
          refine lv_aload_n hx hb dX6_takePoint_63 rfl (lv_at hl 2 rfl) ?_
          refine lv_dup hx hb dX6_takePoint_64 rfl ?_
          refine kget C X 0 (ci := 6) rfl rfl hinX6 14 (by decide) hf166 (v := .int (M_place u9)) rfl dX6_takePoint_65 ?_
          refine lv_iconst (v := 1) hx hb dX6_takePoint_68 (by decide) ?_
          refine lv_iadd hx hb dX6_takePoint_69 ?_
          obtain ⟨u19, eu⟩ : ∃ z, z = M_s_place u9 ((M_place u9) + 1) := ⟨_, rfl⟩
          have hm := lt_t eu hm
          refine kput C X 0 (ci := 6) rfl rfl hinX6 tyX6_ok nmX6 14 (by decide) hf166 rfl (ty := .int) (v := .int ((M_place u9) + 1)) rfl rfl rfl (Nat.le_of_ble_eq_true rfl) (w2 := wM g a u19) (by subst eu; rfl) dX6_takePoint_70 (fun H locs X => ?_)
          clear eu
          refine lv_aload_n hx hb dX6_takePoint_73 rfl (lv_at hl 2 rfl) ?_
          refine lv_iconst (v := 1) hx hb dX6_takePoint_74 (by decide) ?_
          refine lv_bipush (v := 20) hx hb dX6_takePoint_75 (by decide) ?_
          obtain ⟨⟨r20, u21⟩, hcl, hm⟩ := bnd hm
          refine kVW C X (kX6_takeNumber l g a 1 20 u19 r20 u21 hcl) (cw_X6_takePoint_X6_takeNumber_180 C) 0 (ci := 6) rfl rfl (As := [.int 1, .int 20]) rfl hl (rest := []) rfl (Nat.le_of_ble_eq_true rfl) (st2 := [.int r20]) rfl dX6_takePoint_77 ⟨Nat.le_of_ble_eq_true rfl, Nat.le_of_ble_eq_true rfl⟩ (fun H locs X => ?_)
          clear hcl
          refine lv_istore_n (lv' := [(3, .int r20), (2, .int v8), (0, .ref (a 0)), (1, .int r1)]) hx hb dX6_takePoint_80 rfl hl (by decide) rfl (fun ls hl => ?_)
          cases sm hm
          exact K _ _ _ X (lv_sub hl [2, 3, 1, 0] rfl)
    clear hm
    have hm := hE
    clear hE
    refine lv_if_eq (tgt := 37) hx hb dX6_takePoint_30 (by decide) (fun hc => ?_) (fun hc => ?_)
    · have hm := ifp hc hm
      refine lv_aload_n hx hb dX6_takePoint_37 rfl (lv_at hl 0 rfl) ?_
      refine lv_iconst (v := 0) hx hb dX6_takePoint_38 (by decide) ?_
      refine lv_bipush (v := 99) hx hb dX6_takePoint_39 (by decide) ?_
      obtain ⟨⟨r10, u11⟩, hcl, hm⟩ := bnd hm
      refine kVW C X (kX6_takeNumber l g a 0 99 u5 r10 u11 hcl) (cw_X6_takePoint_X6_takeNumber_180 C) 0 (ci := 6) rfl rfl (As := [.int 0, .int 99]) rfl hl (rest := []) rfl (Nat.le_of_ble_eq_true rfl) (st2 := [.int r10]) rfl dX6_takePoint_41 ⟨Nat.le_of_ble_eq_true rfl, Nat.le_of_ble_eq_true rfl⟩ (fun H locs X => ?_)
      clear hcl
      cases sm hm
      exact K _ _ _ X (lv_sub hl [0, 1] rfl)
    · have hm := ifn hc hm
      refine lv_iconst (v := 0) hx hb dX6_takePoint_33 (by decide) ?_
      refine lv_goto (tgt := 44) hx hb dX6_takePoint_34 (by decide) ?_
      cases sm hm
      exact K _ _ _ X (lv_sub hl [0, 1] rfl)
  clear hm
  have hm := hE
  clear hE
  refine lv_icmp_ne (tgt := 22) hx hb dX6_takePoint_15 (by decide) (fun hc => ?_) (fun hc => ?_)
  · have hm := ifn hc hm
    refine lv_iconst (v := 0) hx hb dX6_takePoint_22 (by decide) ?_
    cases sm hm
    exact K _ _ _ X (lv_sub hl [1, 0] rfl)
  · have hm := ifp hc hm
    refine lv_iconst (v := 1) hx hb dX6_takePoint_18 (by decide) ?_
    refine lv_goto (tgt := 23) hx hb dX6_takePoint_19 (by decide) ?_
    cases sm hm
    exact K _ _ _ X (lv_sub hl [1, 0] rfl)
-- X6 BrushStrokesModel.findError()I
abbrev rX6_findError : Room := { frames := 3, cells := 0, slots := 0, locals := 68 }
theorem fl_X6_findError_138 : (Cond.fieldLink RX6 138 "BrushStrokesModel" "reads" "I") ∈ wsX6_findError := by decide +kernel
theorem fl_X6_findError_141 : (Cond.fieldLink RX6 141 "BrushStrokesModel" "length" "I") ∈ wsX6_findError := by decide +kernel
theorem fl_X6_findError_166 : (Cond.fieldLink RX6 166 "BrushStrokesModel" "place" "I") ∈ wsX6_findError := by decide +kernel
theorem fl_X6_findError_169 : (Cond.fieldLink RX6 169 "BrushStrokesModel" "isWrong" "Z") ∈ wsX6_findError := by decide +kernel
theorem in_X6_findError_X6 : ∀ w ∈ u_ws RX6 TX6 16, w ∈ wsX6_findError := by decide +kernel
theorem cw_X6_findError_X6_takePoint_183 {p : Program} {s : State} {m : MethodId} {args : Array Value} {meth : Method} {c : Code} {g : kG} {A : Nat → Prop} (C : CT g p s m args meth c RX6 cX6_findError 1 (some .int) wsX6_findError A) : CallW rX6_findError s args RX6 RX6 183 yX6_takePoint cX6_takePoint 4 none wsX6_takePoint rX6_takePoint 0 0 0 := cwV 0 C.2.2.2.2.2.1 gX6_findError_X6_takePoint rfl rfl rfl (by decide +kernel) ⟨Nat.le_of_ble_eq_true rfl, Nat.le_of_ble_eq_true rfl⟩
theorem cw_X6_findError_X6_sign_173 {p : Program} {s : State} {m : MethodId} {args : Array Value} {meth : Method} {c : Code} {g : kG} {A : Nat → Prop} (C : CT g p s m args meth c RX6 cX6_findError 1 (some .int) wsX6_findError A) : CallW rX6_findError s args RX6 RX6 173 yX6_sign cX6_sign 1 (some .int) wsX6_sign rX6_sign 0 0 0 := cwV 0 C.2.2.2.2.2.1 gX6_findError_X6_sign rfl rfl rfl (by decide +kernel) ⟨Nat.le_of_ble_eq_true rfl, Nat.le_of_ble_eq_true rfl⟩
theorem cw_X6_findError_X6_take_176 {p : Program} {s : State} {m : MethodId} {args : Array Value} {meth : Method} {c : Code} {g : kG} {A : Nat → Prop} (C : CT g p s m args meth c RX6 cX6_findError 1 (some .int) wsX6_findError A) : CallW rX6_findError s args RX6 RX6 176 yX6_take cX6_take 2 none wsX6_take rX6_take 0 0 1 := cwV 1 C.2.2.2.2.2.1 gX6_findError_X6_take rfl rfl rfl (by decide +kernel) ⟨Nat.le_of_ble_eq_true rfl, Nat.le_of_ble_eq_true rfl⟩
noncomputable def bX6_findError_19 (u5 : MS) : Option ((MS) ⊕ (Int32 × MS)) := if (M_isWrong u5) = 0 then (if (M_place u5) = (M_length u5) then (if (M_reads u5) ≤ 1 then ((fX6_sign u5).bind fun r10 => ((if r10 = 59 then (if 24 ≤ (M_reads u5) then (some 0) else (some 1)) else (some 0)) : Option (Int32)).bind fun v11 => (fX6_take v11 u5).bind fun u12 => if (M_isWrong u12) = 0 then ((fX6_takePoint u12).bind fun u13 => some (.inl u13)) else (some (.inl u12))) else (some (.inr ((-1), u5)))) else ((fX6_sign u5).bind fun r6 => ((if r6 = 59 then (if 24 ≤ (M_reads u5) then (some 0) else (some 1)) else (some 0)) : Option (Int32)).bind fun v7 => (fX6_take v7 u5).bind fun u8 => if (M_isWrong u8) = 0 then ((fX6_takePoint u8).bind fun u9 => some (.inl u9)) else (some (.inl u8)))) else (some (.inr (M_place u5, u5)))
noncomputable def lX6_findError_19 (u5 : MS) : Option (Int32 × MS) := lp bX6_findError_19 u5
theorem lX6_findError_19_eq (u5 : MS) : lX6_findError_19 u5 = (if (M_isWrong u5) = 0 then (if (M_place u5) = (M_length u5) then (if (M_reads u5) ≤ 1 then ((fX6_sign u5).bind fun r10 => ((if r10 = 59 then (if 24 ≤ (M_reads u5) then (some 0) else (some 1)) else (some 0)) : Option (Int32)).bind fun v11 => (fX6_take v11 u5).bind fun u12 => if (M_isWrong u12) = 0 then ((fX6_takePoint u12).bind fun u13 => some (.inl u13)) else (some (.inl u12))) else (some (.inr ((-1), u5)))) else ((fX6_sign u5).bind fun r6 => ((if r6 = 59 then (if 24 ≤ (M_reads u5) then (some 0) else (some 1)) else (some 0)) : Option (Int32)).bind fun v7 => (fX6_take v7 u5).bind fun u8 => if (M_isWrong u8) = 0 then ((fX6_takePoint u8).bind fun u9 => some (.inl u9)) else (some (.inl u8)))) else (some (.inr (M_place u5, u5)))).bind fun r => Sum.elim (fun z => lX6_findError_19 z) (fun r => some r) r := lp_eq bX6_findError_19 u5
set_option maxRecDepth 100000 in
set_option maxHeartbeats 4000000 in
theorem tX6_findError_19 {p : Program} {l : Launch} {e : Env} {s : State} {m : MethodId} {args : Array Value} {below : List Frame} {meth : Method} {c : Code} {g : kG} {A : Nat → Prop} (a : Nat → Nat) (C : CT g p s m args meth c RX6 cX6_findError 1 (some .int) wsX6_findError A) (o1 : Int32) (o2 : MS) : ∀ (n : Nat) (u5 : MS), whl bX6_findError_19 n u5 = some (o1, o2) → ∀ (H : Heap) (locs : List Loc) (ls : Array Slot), ST g A s H locs (wM g a u5) → lv_has ls 1 [(0, .ref (a 0))] → W p l e rX6_findError s m args below meth c H locs 0 0 (kEnd g below args s (some (.int o1)) (wM g a o2) A 0 0) (F0 m 19 ls []) := by
  have hx := C.1
  have hb := C.2.1
  have hinX6 := in_X6_findError_X6
  have hf138 := C.2.2.2.2.2.1 _ fl_X6_findError_138
  have hf141 := C.2.2.2.2.2.1 _ fl_X6_findError_141
  have hf166 := C.2.2.2.2.2.1 _ fl_X6_findError_166
  have hf169 := C.2.2.2.2.2.1 _ fl_X6_findError_169
  intro n
  induction n with
  | zero =>
    intro u5 hm
    cases hm
  | succ n ih =>
    intro u5 hm H locs ls X hl
    rw [whl] at hm
    obtain ⟨q, hq, hm2⟩ := bnd hm
    clear hm
    have hm := hq
    clear hq
    rw [bX6_findError_19] at hm
    refine lv_aload_n hx hb dX6_findError_19 rfl (lv_at hl 0 rfl) ?_
    refine kget C X 0 (ci := 6) rfl rfl hinX6 15 (by decide) hf169 (v := .int (M_isWrong u5)) rfl dX6_findError_20 ?_
    refine lv_if_ne (tgt := 88) hx hb dX6_findError_23 (by decide) (fun hc => ?_) (fun hc => ?_)
    · have hm := ifn hc hm
      refine lv_aload_n hx hb dX6_findError_88 rfl (lv_at hl 0 rfl) ?_
      refine kget C X 0 (ci := 6) rfl rfl hinX6 14 (by decide) hf166 (v := .int (M_place u5)) rfl dX6_findError_89 ?_
      cases sm hm
      cases sm hm2
      exact kiret C X dX6_findError_92
    · have hm := ifp hc hm
      refine lv_aload_n hx hb dX6_findError_26 rfl (lv_at hl 0 rfl) ?_
      refine kget C X 0 (ci := 6) rfl rfl hinX6 14 (by decide) hf166 (v := .int (M_place u5)) rfl dX6_findError_27 ?_
      refine lv_aload_n hx hb dX6_findError_30 rfl (lv_at hl 0 rfl) ?_
      refine kget C X 0 (ci := 6) rfl rfl hinX6 7 (by decide) hf141 (v := .int (M_length u5)) rfl dX6_findError_31 ?_
      refine lv_icmp_ne (tgt := 47) hx hb dX6_findError_34 (by decide) (fun hc => ?_) (fun hc => ?_)
      · have hm := ifn hc hm
        refine lv_aload_n hx hb dX6_findError_47 rfl (lv_at hl 0 rfl) ?_
        refine lv_aload_n hx hb dX6_findError_48 rfl (lv_at hl 0 rfl) ?_
        obtain ⟨r6, hcl, hm⟩ := bnd hm
        refine kVW C X (kX6_sign l g a u5 r6 hcl) (cw_X6_findError_X6_sign_173 C) 0 (ci := 6) rfl rfl (As := []) rfl hl (rest := [.ref (a 0)]) rfl (Nat.le_of_ble_eq_true rfl) (st2 := [.int r6, .ref (a 0)]) rfl dX6_findError_49 ⟨Nat.le_of_ble_eq_true rfl, Nat.le_of_ble_eq_true rfl⟩ (fun H locs X => ?_)
        clear hcl
        refine lv_bipush (v := 59) hx hb dX6_findError_52 (by decide) ?_
        obtain ⟨v7, hE, hm⟩ := bnd hm
        have K : ∀ (H : Heap) (locs : List Loc) (ls : Array Slot), ST g A s H locs (wM g a u5) → lv_has ls 1 [(0, .ref (a 0))] → W p l e rX6_findError s m args below meth c H locs 0 0 (kEnd g below args s (some (.int o1)) (wM g a o2) A 0 0) (F0 m 71 ls [.int v7, .ref (a 0)]) := by
          intro H locs ls X hl
          clear hE
          obtain ⟨u8, hcl, hm⟩ := bnd hm
          refine kVW C X (kX6_take l g a v7 u5 u8 hcl) (cw_X6_findError_X6_take_176 C) 0 (ci := 6) rfl rfl (As := [.int v7]) rfl hl (rest := []) rfl (Nat.le_of_ble_eq_true rfl) (st2 := []) rfl dX6_findError_71 ⟨Nat.le_of_ble_eq_true rfl, Nat.le_of_ble_eq_true rfl⟩ (fun H locs X => ?_)
          clear hcl
          refine lv_aload_n hx hb dX6_findError_74 rfl (lv_at hl 0 rfl) ?_
          refine kget C X 0 (ci := 6) rfl rfl hinX6 15 (by decide) hf169 (v := .int (M_isWrong u8)) rfl dX6_findError_75 ?_
          refine lv_if_ne (tgt := 19) hx hb dX6_findError_78 (by decide) (fun hc => ?_) (fun hc => ?_)
          · have hm := ifn hc hm
            cases sm hm
            exact ih _ hm2 _ _ _ X (lv_sub hl [0] rfl)
          · have hm := ifp hc hm
            refine lv_aload_n hx hb dX6_findError_81 rfl (lv_at hl 0 rfl) ?_
            obtain ⟨u9, hcl, hm⟩ := bnd hm
            refine kVW C X (kX6_takePoint l g a u8 u9 hcl) (cw_X6_findError_X6_takePoint_183 C) 0 (ci := 6) rfl rfl (As := []) rfl hl (rest := []) rfl (Nat.le_of_ble_eq_true rfl) (st2 := []) rfl dX6_findError_82 ⟨Nat.le_of_ble_eq_true rfl, Nat.le_of_ble_eq_true rfl⟩ (fun H locs X => ?_)
            clear hcl
            refine lv_goto (tgt := 19) hx hb dX6_findError_85 (by decide) ?_
            cases sm hm
            exact ih _ hm2 _ _ _ X (lv_sub hl [0] rfl)
        clear hm
        have hm := hE
        clear hE
        refine lv_icmp_ne (tgt := 70) hx hb dX6_findError_54 (by decide) (fun hc => ?_) (fun hc => ?_)
        · have hm := ifn hc hm
          refine lv_iconst (v := 0) hx hb dX6_findError_70 (by decide) ?_
          cases sm hm
          exact K _ _ _ X (lv_sub hl [0] rfl)
        · have hm := ifp hc hm
          refine lv_aload_n hx hb dX6_findError_57 rfl (lv_at hl 0 rfl) ?_
          refine kget C X 0 (ci := 6) rfl rfl hinX6 13 (by decide) hf138 (v := .int (M_reads u5)) rfl dX6_findError_58 ?_
          refine lv_bipush (v := 24) hx hb dX6_findError_61 (by decide) ?_
          refine lv_icmp_ge (tgt := 70) hx hb dX6_findError_63 (by decide) (fun hc => ?_) (fun hc => ?_)
          · have hm := ifp hc hm
            refine lv_iconst (v := 0) hx hb dX6_findError_70 (by decide) ?_
            cases sm hm
            exact K _ _ _ X (lv_sub hl [0] rfl)
          · have hm := ifn hc hm
            refine lv_iconst (v := 1) hx hb dX6_findError_66 (by decide) ?_
            refine lv_goto (tgt := 71) hx hb dX6_findError_67 (by decide) ?_
            cases sm hm
            exact K _ _ _ X (lv_sub hl [0] rfl)
      · have hm := ifp hc hm
        refine lv_aload_n hx hb dX6_findError_37 rfl (lv_at hl 0 rfl) ?_
        refine kget C X 0 (ci := 6) rfl rfl hinX6 13 (by decide) hf138 (v := .int (M_reads u5)) rfl dX6_findError_38 ?_
        refine lv_iconst (v := 1) hx hb dX6_findError_41 (by decide) ?_
        refine lv_icmp_le (tgt := 47) hx hb dX6_findError_42 (by decide) (fun hc => ?_) (fun hc => ?_)
        · have hm := ifp hc hm
          refine lv_aload_n hx hb dX6_findError_47 rfl (lv_at hl 0 rfl) ?_
          refine lv_aload_n hx hb dX6_findError_48 rfl (lv_at hl 0 rfl) ?_
          obtain ⟨r10, hcl, hm⟩ := bnd hm
          refine kVW C X (kX6_sign l g a u5 r10 hcl) (cw_X6_findError_X6_sign_173 C) 0 (ci := 6) rfl rfl (As := []) rfl hl (rest := [.ref (a 0)]) rfl (Nat.le_of_ble_eq_true rfl) (st2 := [.int r10, .ref (a 0)]) rfl dX6_findError_49 ⟨Nat.le_of_ble_eq_true rfl, Nat.le_of_ble_eq_true rfl⟩ (fun H locs X => ?_)
          clear hcl
          refine lv_bipush (v := 59) hx hb dX6_findError_52 (by decide) ?_
          obtain ⟨v11, hE, hm⟩ := bnd hm
          have K : ∀ (H : Heap) (locs : List Loc) (ls : Array Slot), ST g A s H locs (wM g a u5) → lv_has ls 1 [(0, .ref (a 0))] → W p l e rX6_findError s m args below meth c H locs 0 0 (kEnd g below args s (some (.int o1)) (wM g a o2) A 0 0) (F0 m 71 ls [.int v11, .ref (a 0)]) := by
            intro H locs ls X hl
            clear hE
            obtain ⟨u12, hcl, hm⟩ := bnd hm
            refine kVW C X (kX6_take l g a v11 u5 u12 hcl) (cw_X6_findError_X6_take_176 C) 0 (ci := 6) rfl rfl (As := [.int v11]) rfl hl (rest := []) rfl (Nat.le_of_ble_eq_true rfl) (st2 := []) rfl dX6_findError_71 ⟨Nat.le_of_ble_eq_true rfl, Nat.le_of_ble_eq_true rfl⟩ (fun H locs X => ?_)
            clear hcl
            refine lv_aload_n hx hb dX6_findError_74 rfl (lv_at hl 0 rfl) ?_
            refine kget C X 0 (ci := 6) rfl rfl hinX6 15 (by decide) hf169 (v := .int (M_isWrong u12)) rfl dX6_findError_75 ?_
            refine lv_if_ne (tgt := 19) hx hb dX6_findError_78 (by decide) (fun hc => ?_) (fun hc => ?_)
            · have hm := ifn hc hm
              cases sm hm
              exact ih _ hm2 _ _ _ X (lv_sub hl [0] rfl)
            · have hm := ifp hc hm
              refine lv_aload_n hx hb dX6_findError_81 rfl (lv_at hl 0 rfl) ?_
              obtain ⟨u13, hcl, hm⟩ := bnd hm
              refine kVW C X (kX6_takePoint l g a u12 u13 hcl) (cw_X6_findError_X6_takePoint_183 C) 0 (ci := 6) rfl rfl (As := []) rfl hl (rest := []) rfl (Nat.le_of_ble_eq_true rfl) (st2 := []) rfl dX6_findError_82 ⟨Nat.le_of_ble_eq_true rfl, Nat.le_of_ble_eq_true rfl⟩ (fun H locs X => ?_)
              clear hcl
              refine lv_goto (tgt := 19) hx hb dX6_findError_85 (by decide) ?_
              cases sm hm
              exact ih _ hm2 _ _ _ X (lv_sub hl [0] rfl)
          clear hm
          have hm := hE
          clear hE
          refine lv_icmp_ne (tgt := 70) hx hb dX6_findError_54 (by decide) (fun hc => ?_) (fun hc => ?_)
          · have hm := ifn hc hm
            refine lv_iconst (v := 0) hx hb dX6_findError_70 (by decide) ?_
            cases sm hm
            exact K _ _ _ X (lv_sub hl [0] rfl)
          · have hm := ifp hc hm
            refine lv_aload_n hx hb dX6_findError_57 rfl (lv_at hl 0 rfl) ?_
            refine kget C X 0 (ci := 6) rfl rfl hinX6 13 (by decide) hf138 (v := .int (M_reads u5)) rfl dX6_findError_58 ?_
            refine lv_bipush (v := 24) hx hb dX6_findError_61 (by decide) ?_
            refine lv_icmp_ge (tgt := 70) hx hb dX6_findError_63 (by decide) (fun hc => ?_) (fun hc => ?_)
            · have hm := ifp hc hm
              refine lv_iconst (v := 0) hx hb dX6_findError_70 (by decide) ?_
              cases sm hm
              exact K _ _ _ X (lv_sub hl [0] rfl)
            · have hm := ifn hc hm
              refine lv_iconst (v := 1) hx hb dX6_findError_66 (by decide) ?_
              refine lv_goto (tgt := 71) hx hb dX6_findError_67 (by decide) ?_
              cases sm hm
              exact K _ _ _ X (lv_sub hl [0] rfl)
        · have hm := ifn hc hm
          refine lv_iconst (v := (-1)) hx hb dX6_findError_45 (by decide) ?_
          cases sm hm
          cases sm hm2
          exact kiret C X dX6_findError_46
noncomputable def fX6_findError (u : MS) : Option (Int32 × MS) := lt (M_s_place u 0) fun u1 => lt (M_s_isWrong u1 0) fun u2 => lt (M_s_reads u2 0) fun u3 => (fX6_takePoint u3).bind fun u4 => lX6_findError_19 u4
set_option maxRecDepth 100000 in
set_option maxHeartbeats 4000000 in
theorem kX6_findError (l : Launch) (g : kG) (a : Nat → Nat) (u : MS) (o1 : Int32) (o2 : MS) (hm : fX6_findError u = some (o1, o2)) : KM l yX6_findError wsX6_findError rX6_findError g [.ref (a 0)] (wM g a u) (some (.int o1)) (wM g a o2) 0 0 := by
  refine KM.of (nL := 1) (by decide) rfl (Nat.le_of_ble_eq_true rfl) ?_
  intro p e s m args below meth c A ls C X hl
  have C : CT g p s m args meth c RX6 cX6_findError 1 (some .int) wsX6_findError A := C
  have hx := C.1
  have hb := C.2.1
  have hl : lv_has ls 1 [(0, .ref (a 0))] := hl
  have hinX6 := in_X6_findError_X6
  have hf138 := C.2.2.2.2.2.1 _ fl_X6_findError_138
  have hf166 := C.2.2.2.2.2.1 _ fl_X6_findError_166
  have hf169 := C.2.2.2.2.2.1 _ fl_X6_findError_169
  rw [fX6_findError] at hm
  refine lv_aload_n hx hb dX6_findError_0 rfl (lv_at hl 0 rfl) ?_
  refine lv_iconst (v := 0) hx hb dX6_findError_1 (by decide) ?_
  obtain ⟨u1, eu⟩ : ∃ z, z = M_s_place u 0 := ⟨_, rfl⟩
  have hm := lt_t eu hm
  refine kput C X 0 (ci := 6) rfl rfl hinX6 tyX6_ok nmX6 14 (by decide) hf166 rfl (ty := .int) (v := .int 0) rfl rfl rfl (Nat.le_of_ble_eq_true rfl) (w2 := wM g a u1) (by subst eu; rfl) dX6_findError_2 (fun H locs X => ?_)
  clear eu
  refine lv_aload_n hx hb dX6_findError_5 rfl (lv_at hl 0 rfl) ?_
  refine lv_iconst (v := 0) hx hb dX6_findError_6 (by decide) ?_
  obtain ⟨u2, eu⟩ : ∃ z, z = M_s_isWrong u1 0 := ⟨_, rfl⟩
  have hm := lt_t eu hm
  refine kput C X 0 (ci := 6) rfl rfl hinX6 tyX6_ok nmX6 15 (by decide) hf169 rfl (ty := .boolean) (v := .int 0) rfl rfl rfl (Nat.le_of_ble_eq_true rfl) (w2 := wM g a u2) (by subst eu; rfl) dX6_findError_7 (fun H locs X => ?_)
  clear eu
  refine lv_aload_n hx hb dX6_findError_10 rfl (lv_at hl 0 rfl) ?_
  refine lv_iconst (v := 0) hx hb dX6_findError_11 (by decide) ?_
  obtain ⟨u3, eu⟩ : ∃ z, z = M_s_reads u2 0 := ⟨_, rfl⟩
  have hm := lt_t eu hm
  refine kput C X 0 (ci := 6) rfl rfl hinX6 tyX6_ok nmX6 13 (by decide) hf138 rfl (ty := .int) (v := .int 0) rfl rfl rfl (Nat.le_of_ble_eq_true rfl) (w2 := wM g a u3) (by subst eu; rfl) dX6_findError_12 (fun H locs X => ?_)
  clear eu
  refine lv_aload_n hx hb dX6_findError_15 rfl (lv_at hl 0 rfl) ?_
  obtain ⟨u4, hcl, hm⟩ := bnd hm
  refine kVW C X (kX6_takePoint l g a u3 u4 hcl) (cw_X6_findError_X6_takePoint_183 C) 0 (ci := 6) rfl rfl (As := []) rfl hl (rest := []) rfl (Nat.le_of_ble_eq_true rfl) (st2 := []) rfl dX6_findError_16 ⟨Nat.le_of_ble_eq_true rfl, Nat.le_of_ble_eq_true rfl⟩ (fun H locs X => ?_)
  clear hcl
  obtain ⟨nn, hn⟩ := lp_run hm
  exact tX6_findError_19 a C  _ _ nn _ hn _ _ _ X (lv_sub hl [0] rfl)
-- X6 BrushStrokesModel.draw()I
abbrev rX6_draw : Room := { frames := 4, cells := 0, slots := 0, locals := 88 }
theorem fl_X6_draw_141 : (Cond.fieldLink RX6 141 "BrushStrokesModel" "length" "I") ∈ wsX6_draw := by decide +kernel
theorem fl_X6_draw_35 : (Cond.fieldLink RX6 35 "BrushStrokesModel" "thrown" "I") ∈ wsX6_draw := by decide +kernel
theorem fl_X6_draw_7 : (Cond.fieldLink RX6 7 "BrushStrokesModel" "z" "[I") ∈ wsX6_draw := by decide +kernel
theorem fl_X6_draw_138 : (Cond.fieldLink RX6 138 "BrushStrokesModel" "reads" "I") ∈ wsX6_draw := by decide +kernel
theorem fl_X6_draw_32 : (Cond.fieldLink RX6 32 "BrushStrokesModel" "read" "[I") ∈ wsX6_draw := by decide +kernel
theorem in_X6_draw_X6 : ∀ w ∈ u_ws RX6 TX6 16, w ∈ wsX6_draw := by decide +kernel
theorem cw_X6_draw_X6_findError_134 {p : Program} {s : State} {m : MethodId} {args : Array Value} {meth : Method} {c : Code} {g : kG} {A : Nat → Prop} (C : CT g p s m args meth c RX6 cX6_draw 4 (some .int) wsX6_draw A) : CallW rX6_draw s args RX6 RX6 134 yX6_findError cX6_findError 1 (some .int) wsX6_findError rX6_findError 0 0 0 := cwV 0 C.2.2.2.2.2.1 gX6_draw_X6_findError rfl rfl rfl (by decide +kernel) ⟨Nat.le_of_ble_eq_true rfl, Nat.le_of_ble_eq_true rfl⟩
theorem cw_X6_draw_X6_put_130 {p : Program} {s : State} {m : MethodId} {args : Array Value} {meth : Method} {c : Code} {g : kG} {A : Nat → Prop} (C : CT g p s m args meth c RX6 cX6_draw 4 (some .int) wsX6_draw A) : CallW rX6_draw s args RX6 RX6 130 yX6_put cX6_put 7 none wsX6_put rX6_put 0 0 5 := cwV 5 C.2.2.2.2.2.1 gX6_draw_X6_put rfl rfl rfl (by decide +kernel) ⟨Nat.le_of_ble_eq_true rfl, Nat.le_of_ble_eq_true rfl⟩
theorem cw_X6_draw_X6_record_62 {p : Program} {s : State} {m : MethodId} {args : Array Value} {meth : Method} {c : Code} {g : kG} {A : Nat → Prop} (C : CT g p s m args meth c RX6 cX6_draw 4 (some .int) wsX6_draw A) : CallW rX6_draw s args RX6 RX6 62 yX6_record cX6_record 2 none wsX6_record rX6_record 0 0 0 := cwV 0 C.2.2.2.2.2.1 gX6_draw_X6_record rfl rfl rfl (by decide +kernel) ⟨Nat.le_of_ble_eq_true rfl, Nat.le_of_ble_eq_true rfl⟩
theorem cw_X6_draw_X6_begin_127 {p : Program} {s : State} {m : MethodId} {args : Array Value} {meth : Method} {c : Code} {g : kG} {A : Nat → Prop} (C : CT g p s m args meth c RX6 cX6_draw 4 (some .int) wsX6_draw A) : CallW rX6_draw s args RX6 RX6 127 yX6_begin cX6_begin 3 (some .int) wsX6_begin rX6_begin 0 0 1 := cwV 1 C.2.2.2.2.2.1 gX6_draw_X6_begin rfl rfl rfl (by decide +kernel) ⟨Nat.le_of_ble_eq_true rfl, Nat.le_of_ble_eq_true rfl⟩
noncomputable def bX6_draw_66 (c9 : Int32) : Int32 × MS → Option ((Int32 × MS) ⊕ (MS))
  | (x10, u11) => if (M_reads u11) ≤ x10 then (some (.inr u11)) else (gd (inb (3 * x10) 72) (gd (inb ((3 * x10) + 1) 72) (gd (inb ((3 * x10) + 2) 72) ((fX6_put c9 x10 (M_read u11 (3 * x10).toNatClampNeg) (M_read u11 ((3 * x10) + 1).toNatClampNeg) (M_read u11 ((3 * x10) + 2).toNatClampNeg) u11).bind fun u13 => some (.inl (x10 + 1, u13))))))
noncomputable def lX6_draw_66 (c9 : Int32) (x10 : Int32) (u11 : MS) : Option (MS) := lp (bX6_draw_66 c9) (x10, u11)
theorem lX6_draw_66_eq (c9 : Int32) (x10 : Int32) (u11 : MS) : lX6_draw_66 c9 x10 u11 = (if (M_reads u11) ≤ x10 then (some (.inr u11)) else (gd (inb (3 * x10) 72) (gd (inb ((3 * x10) + 1) 72) (gd (inb ((3 * x10) + 2) 72) ((fX6_put c9 x10 (M_read u11 (3 * x10).toNatClampNeg) (M_read u11 ((3 * x10) + 1).toNatClampNeg) (M_read u11 ((3 * x10) + 2).toNatClampNeg) u11).bind fun u13 => some (.inl (x10 + 1, u13))))))).bind fun r => Sum.elim (fun z => lX6_draw_66 c9 z.1 z.2) (fun r => some r) r := lp_eq (bX6_draw_66 c9) (x10, u11)
set_option maxRecDepth 100000 in
set_option maxHeartbeats 4000000 in
theorem tX6_draw_66 {p : Program} {l : Launch} {e : Env} {s : State} {m : MethodId} {args : Array Value} {below : List Frame} {meth : Method} {c : Code} {g : kG} {A : Nat → Prop} {Q : State → Prop} (a : Nat → Nat) (C : CT g p s m args meth c RX6 cX6_draw 4 (some .int) wsX6_draw A) (c9 : Int32) (u12 : MS) (kk : ∀ (H : Heap) (locs : List Loc) (ls : Array Slot), ST g A s H locs (wM g a u12) → lv_has ls 4 [(0, .ref (a 0)), (2, .int c9)] → W p l e rX6_draw s m args below meth c H locs 0 0 Q (F0 m 114 ls [])) : ∀ (n : Nat) (x10 : Int32) (u11 : MS), whl (bX6_draw_66 c9) n (x10, u11) = some u12 → ∀ (H : Heap) (locs : List Loc) (ls : Array Slot), ST g A s H locs (wM g a u11) → lv_has ls 4 [(0, .ref (a 0)), (2, .int c9), (3, .int x10)] → W p l e rX6_draw s m args below meth c H locs 0 0 Q (F0 m 66 ls []) := by
  have hx := C.1
  have hb := C.2.1
  have hinX6 := in_X6_draw_X6
  have hf32 := C.2.2.2.2.2.1 _ fl_X6_draw_32
  have hf138 := C.2.2.2.2.2.1 _ fl_X6_draw_138
  intro n
  induction n with
  | zero =>
    intro x10 u11 hm
    cases hm
  | succ n ih =>
    intro x10 u11 hm H locs ls X hl
    rw [whl] at hm
    obtain ⟨q, hq, hm2⟩ := bnd hm
    clear hm
    have hm := hq
    clear hq
    rw [bX6_draw_66] at hm
    refine lv_iload_n hx hb dX6_draw_66 rfl (lv_at hl 2 rfl) ?_
    refine lv_aload_n hx hb dX6_draw_67 rfl (lv_at hl 0 rfl) ?_
    refine kget C X 0 (ci := 6) rfl rfl hinX6 13 (by decide) hf138 (v := .int (M_reads u11)) rfl dX6_draw_68 ?_
    refine lv_icmp_ge (tgt := 114) hx hb dX6_draw_71 (by decide) (fun hc => ?_) (fun hc => ?_)
    · have hm := ifp hc hm
      cases sm hm
      cases sm hm2
      exact kk _ _ _ X (lv_sub hl [0, 1] rfl)
    · have hm := ifn hc hm
      refine lv_aload_n hx hb dX6_draw_74 rfl (lv_at hl 0 rfl) ?_
      refine lv_iload_n hx hb dX6_draw_75 rfl (lv_at hl 1 rfl) ?_
      refine lv_iload_n hx hb dX6_draw_76 rfl (lv_at hl 2 rfl) ?_
      refine lv_aload_n hx hb dX6_draw_77 rfl (lv_at hl 0 rfl) ?_
      refine kget C X 0 (ci := 6) rfl rfl hinX6 12 (by decide) hf32 (v := .ref (a 8)) rfl dX6_draw_78 ?_
      refine lv_iconst (v := 3) hx hb dX6_draw_81 (by decide) ?_
      refine lv_iload_n hx hb dX6_draw_82 rfl (lv_at hl 2 rfl) ?_
      refine lv_imul hx hb dX6_draw_83 ?_
      obtain ⟨hgi, hm⟩ := gd_t hm
      refine kiald C X 8 rfl hgi dX6_draw_84 ?_
      refine lv_aload_n hx hb dX6_draw_85 rfl (lv_at hl 0 rfl) ?_
      refine kget C X 0 (ci := 6) rfl rfl hinX6 12 (by decide) hf32 (v := .ref (a 8)) rfl dX6_draw_86 ?_
      refine lv_iconst (v := 3) hx hb dX6_draw_89 (by decide) ?_
      refine lv_iload_n hx hb dX6_draw_90 rfl (lv_at hl 2 rfl) ?_
      refine lv_imul hx hb dX6_draw_91 ?_
      refine lv_iconst (v := 1) hx hb dX6_draw_92 (by decide) ?_
      refine lv_iadd hx hb dX6_draw_93 ?_
      obtain ⟨hgi, hm⟩ := gd_t hm
      refine kiald C X 8 rfl hgi dX6_draw_94 ?_
      refine lv_aload_n hx hb dX6_draw_95 rfl (lv_at hl 0 rfl) ?_
      refine kget C X 0 (ci := 6) rfl rfl hinX6 12 (by decide) hf32 (v := .ref (a 8)) rfl dX6_draw_96 ?_
      refine lv_iconst (v := 3) hx hb dX6_draw_99 (by decide) ?_
      refine lv_iload_n hx hb dX6_draw_100 rfl (lv_at hl 2 rfl) ?_
      refine lv_imul hx hb dX6_draw_101 ?_
      refine lv_iconst (v := 2) hx hb dX6_draw_102 (by decide) ?_
      refine lv_iadd hx hb dX6_draw_103 ?_
      obtain ⟨hgi, hm⟩ := gd_t hm
      refine kiald C X 8 rfl hgi dX6_draw_104 ?_
      obtain ⟨u13, hcl, hm⟩ := bnd hm
      refine kVW C X (kX6_put l g a c9 x10 (M_read u11 (3 * x10).toNatClampNeg) (M_read u11 ((3 * x10) + 1).toNatClampNeg) (M_read u11 ((3 * x10) + 2).toNatClampNeg) u11 u13 hcl) (cw_X6_draw_X6_put_130 C) 0 (ci := 6) rfl rfl (As := [.int c9, .int x10, .int (M_read u11 (3 * x10).toNatClampNeg), .int (M_read u11 ((3 * x10) + 1).toNatClampNeg), .int (M_read u11 ((3 * x10) + 2).toNatClampNeg)]) rfl hl (rest := []) rfl (Nat.le_of_ble_eq_true rfl) (st2 := []) rfl dX6_draw_105 ⟨Nat.le_of_ble_eq_true rfl, Nat.le_of_ble_eq_true rfl⟩ (fun H locs X => ?_)
      clear hcl
      refine lv_iinc (v := x10 + 1) (lv' := [(3, .int (x10 + 1)), (0, .ref (a 0)), (2, .int c9)]) hx hb dX6_draw_108 hl (k := 2) rfl rfl (by decide) rfl (fun ls hl => ?_)
      refine lv_goto (tgt := 66) hx hb dX6_draw_111 (by decide) ?_
      cases sm hm
      exact ih _ _ hm2 _ _ _ X (lv_sub hl [1, 2, 0] rfl)
noncomputable def fX6_draw (u : MS) : Option (Int32 × MS) := (fX6_findError u).bind fun (r1, u2) => ((if 0 ≤ r1 then (some 0) else (some 1)) : Option (Int32)).bind fun v3 => ((if v3 = 0 then (some 1) else (gd (inb 296 303) (if (M_z u2 (296 : Int32).toNatClampNeg) = 4 then (some 2) else (some 0)))) : Option (Int32)).bind fun v4 => lt (M_s_thrown u2 v4) fun u5 => if (M_thrown u5) ≤ 0 then ((fX6_record u5).bind fun u6 => (fX6_begin (M_reads u6) u6).bind fun (r7, u8) => (lX6_draw_66 r7 0 u8).bind fun u14 => lt (M_s_length u14 0) fun u15 => some (r7, u15)) else (some (0, u5))
set_option maxRecDepth 100000 in
set_option maxHeartbeats 4000000 in
theorem kX6_draw (l : Launch) (g : kG) (a : Nat → Nat) (u : MS) (o1 : Int32) (o2 : MS) (hm : fX6_draw u = some (o1, o2)) : KM l yX6_draw wsX6_draw rX6_draw g [.ref (a 0)] (wM g a u) (some (.int o1)) (wM g a o2) 0 0 := by
  refine KM.of (nL := 4) (by decide) rfl (Nat.le_of_ble_eq_true rfl) ?_
  intro p e s m args below meth c A ls C X hl
  have C : CT g p s m args meth c RX6 cX6_draw 4 (some .int) wsX6_draw A := C
  have hx := C.1
  have hb := C.2.1
  have hl : lv_has ls 4 [(0, .ref (a 0))] := hl
  have hinX6 := in_X6_draw_X6
  have hf7 := C.2.2.2.2.2.1 _ fl_X6_draw_7
  have hf35 := C.2.2.2.2.2.1 _ fl_X6_draw_35
  have hf138 := C.2.2.2.2.2.1 _ fl_X6_draw_138
  have hf141 := C.2.2.2.2.2.1 _ fl_X6_draw_141
  rw [fX6_draw] at hm
  refine lv_aload_n hx hb dX6_draw_0 rfl (lv_at hl 0 rfl) ?_
  obtain ⟨⟨r1, u2⟩, hcl, hm⟩ := bnd hm
  refine kVW C X (kX6_findError l g a u r1 u2 hcl) (cw_X6_draw_X6_findError_134 C) 0 (ci := 6) rfl rfl (As := []) rfl hl (rest := []) rfl (Nat.le_of_ble_eq_true rfl) (st2 := [.int r1]) rfl dX6_draw_1 ⟨Nat.le_of_ble_eq_true rfl, Nat.le_of_ble_eq_true rfl⟩ (fun H locs X => ?_)
  clear hcl
  obtain ⟨v3, hE, hm⟩ := bnd hm
  have K : ∀ (H : Heap) (locs : List Loc) (ls : Array Slot), ST g A s H locs (wM g a u2) → lv_has ls 4 [(0, .ref (a 0))] → W p l e rX6_draw s m args below meth c H locs 0 0 (kEnd g below args s (some (.int o1)) (wM g a o2) A 0 0) (F0 m 12 ls [.int v3]) := by
    intro H locs ls X hl
    clear hE
    refine lv_istore_n (lv' := [(1, .int v3), (0, .ref (a 0))]) hx hb dX6_draw_12 rfl hl (by decide) rfl (fun ls hl => ?_)
    refine lv_aload_n hx hb dX6_draw_13 rfl (lv_at hl 1 rfl) ?_
    refine lv_iload_n hx hb dX6_draw_14 rfl (lv_at hl 0 rfl) ?_
    obtain ⟨v4, hE, hm⟩ := bnd hm
    have K : ∀ (H : Heap) (locs : List Loc) (ls : Array Slot), ST g A s H locs (wM g a u2) → lv_has ls 4 [(0, .ref (a 0))] → W p l e rX6_draw s m args below meth c H locs 0 0 (kEnd g below args s (some (.int o1)) (wM g a o2) A 0 0) (F0 m 39 ls [.int v4, .ref (a 0)]) := by
      intro H locs ls X hl
      clear hE
      obtain ⟨u5, eu⟩ : ∃ z, z = M_s_thrown u2 v4 := ⟨_, rfl⟩
      have hm := lt_t eu hm
      refine kput C X 0 (ci := 6) rfl rfl hinX6 tyX6_ok nmX6 0 (by decide) hf35 rfl (ty := .int) (v := .int v4) rfl rfl rfl (Nat.le_of_ble_eq_true rfl) (w2 := wM g a u5) (by subst eu; rfl) dX6_draw_39 (fun H locs X => ?_)
      clear eu
      refine lv_aload_n hx hb dX6_draw_42 rfl (lv_at hl 0 rfl) ?_
      refine kget C X 0 (ci := 6) rfl rfl hinX6 0 (by decide) hf35 (v := .int (M_thrown u5)) rfl dX6_draw_43 ?_
      refine lv_if_le (tgt := 51) hx hb dX6_draw_46 (by decide) (fun hc => ?_) (fun hc => ?_)
      · have hm := ifp hc hm
        refine lv_aload_n hx hb dX6_draw_51 rfl (lv_at hl 0 rfl) ?_
        obtain ⟨u6, hcl, hm⟩ := bnd hm
        refine kVW C X (kX6_record l g a u5 u6 hcl) (cw_X6_draw_X6_record_62 C) 0 (ci := 6) rfl rfl (As := []) rfl hl (rest := []) rfl (Nat.le_of_ble_eq_true rfl) (st2 := []) rfl dX6_draw_52 ⟨Nat.le_of_ble_eq_true rfl, Nat.le_of_ble_eq_true rfl⟩ (fun H locs X => ?_)
        clear hcl
        refine lv_aload_n hx hb dX6_draw_55 rfl (lv_at hl 0 rfl) ?_
        refine lv_aload_n hx hb dX6_draw_56 rfl (lv_at hl 0 rfl) ?_
        refine kget C X 0 (ci := 6) rfl rfl hinX6 13 (by decide) hf138 (v := .int (M_reads u6)) rfl dX6_draw_57 ?_
        obtain ⟨⟨r7, u8⟩, hcl, hm⟩ := bnd hm
        refine kVW C X (kX6_begin l g a (M_reads u6) u6 r7 u8 hcl) (cw_X6_draw_X6_begin_127 C) 0 (ci := 6) rfl rfl (As := [.int (M_reads u6)]) rfl hl (rest := []) rfl (Nat.le_of_ble_eq_true rfl) (st2 := [.int r7]) rfl dX6_draw_60 ⟨Nat.le_of_ble_eq_true rfl, Nat.le_of_ble_eq_true rfl⟩ (fun H locs X => ?_)
        clear hcl
        refine lv_istore_n (lv' := [(2, .int r7), (0, .ref (a 0))]) hx hb dX6_draw_63 rfl hl (by decide) rfl (fun ls hl => ?_)
        refine lv_iconst (v := 0) hx hb dX6_draw_64 (by decide) ?_
        refine lv_istore_n (lv' := [(3, .int 0), (2, .int r7), (0, .ref (a 0))]) hx hb dX6_draw_65 rfl hl (by decide) rfl (fun ls hl => ?_)
        obtain ⟨u14, hL, hm⟩ := bnd hm
        obtain ⟨nn, hn⟩ := lp_run hL
        refine tX6_draw_66 a C r7 u14 (fun H locs ls X hl => ?_) nn _ _ hn _ _ _ X (lv_sub hl [2, 1, 0] rfl)
        clear hL hn
        refine lv_aload_n hx hb dX6_draw_114 rfl (lv_at hl 0 rfl) ?_
        refine lv_iconst (v := 0) hx hb dX6_draw_115 (by decide) ?_
        obtain ⟨u15, eu⟩ : ∃ z, z = M_s_length u14 0 := ⟨_, rfl⟩
        have hm := lt_t eu hm
        refine kput C X 0 (ci := 6) rfl rfl hinX6 tyX6_ok nmX6 7 (by decide) hf141 rfl (ty := .int) (v := .int 0) rfl rfl rfl (Nat.le_of_ble_eq_true rfl) (w2 := wM g a u15) (by subst eu; rfl) dX6_draw_116 (fun H locs X => ?_)
        clear eu
        refine lv_iload_n hx hb dX6_draw_119 rfl (lv_at hl 1 rfl) ?_
        cases sm hm
        exact kiret C X dX6_draw_120
      · have hm := ifn hc hm
        refine lv_iconst (v := 0) hx hb dX6_draw_49 (by decide) ?_
        cases sm hm
        exact kiret C X dX6_draw_50
    clear hm
    have hm := hE
    clear hE
    refine lv_if_ne (tgt := 22) hx hb dX6_draw_15 (by decide) (fun hc => ?_) (fun hc => ?_)
    · have hm := ifn hc hm
      refine lv_aload_n hx hb dX6_draw_22 rfl (lv_at hl 1 rfl) ?_
      refine kget C X 0 (ci := 6) rfl rfl hinX6 1 (by decide) hf7 (v := .ref (a 1)) rfl dX6_draw_23 ?_
      refine lv_sipush (v := 296) hx hb dX6_draw_26 (by decide) ?_
      obtain ⟨hgi, hm⟩ := gd_t hm
      refine kiald C X 1 rfl hgi dX6_draw_29 ?_
      refine lv_iconst (v := 4) hx hb dX6_draw_30 (by decide) ?_
      refine lv_icmp_ne (tgt := 38) hx hb dX6_draw_31 (by decide) (fun hc => ?_) (fun hc => ?_)
      · have hm := ifn hc hm
        refine lv_iconst (v := 0) hx hb dX6_draw_38 (by decide) ?_
        cases sm hm
        exact K _ _ _ X (lv_sub hl [1] rfl)
      · have hm := ifp hc hm
        refine lv_iconst (v := 2) hx hb dX6_draw_34 (by decide) ?_
        refine lv_goto (tgt := 39) hx hb dX6_draw_35 (by decide) ?_
        cases sm hm
        exact K _ _ _ X (lv_sub hl [1] rfl)
    · have hm := ifp hc hm
      refine lv_iconst (v := 1) hx hb dX6_draw_18 (by decide) ?_
      refine lv_goto (tgt := 39) hx hb dX6_draw_19 (by decide) ?_
      cases sm hm
      exact K _ _ _ X (lv_sub hl [1] rfl)
  clear hm
  have hm := hE
  clear hE
  refine lv_if_ge (tgt := 11) hx hb dX6_draw_4 (by decide) (fun hc => ?_) (fun hc => ?_)
  · have hm := ifp hc hm
    refine lv_iconst (v := 0) hx hb dX6_draw_11 (by decide) ?_
    cases sm hm
    exact K _ _ _ X (lv_sub hl [0] rfl)
  · have hm := ifn hc hm
    refine lv_iconst (v := 1) hx hb dX6_draw_7 (by decide) ?_
    refine lv_goto (tgt := 12) hx hb dX6_draw_8 (by decide) ?_
    cases sm hm
    exact K _ _ _ X (lv_sub hl [0] rfl)
-- X6 BrushStrokesModel.isNumbers(III)Z
abbrev rX6_isNumbers : Room := { frames := 2, cells := 0, slots := 0, locals := 43 }
theorem cw_X6_isNumbers_X6_in_39 {p : Program} {s : State} {m : MethodId} {args : Array Value} {meth : Method} {c : Code} {g : kG} {A : Nat → Prop} (C : CT g p s m args meth c RX6 cX6_isNumbers 3 (some .boolean) wsX6_isNumbers A) : CallB rX6_isNumbers s args RX6 39 yX6_in cX6_in 3 (some .boolean) wsX6_in rX6_in 0 0 3 ∧ (Cond.static yX6_in).before args s = true := cwS 3 C.2.2.2.2.2.1 gX6_isNumbers_X6_in rfl rfl rfl (by decide +kernel) ⟨Nat.le_of_ble_eq_true rfl, Nat.le_of_ble_eq_true rfl⟩
theorem cw_X6_isNumbers_X6_isAt_124 {p : Program} {s : State} {m : MethodId} {args : Array Value} {meth : Method} {c : Code} {g : kG} {A : Nat → Prop} (C : CT g p s m args meth c RX6 cX6_isNumbers 3 (some .boolean) wsX6_isNumbers A) : CallB rX6_isNumbers s args RX6 124 yX6_isAt cX6_isAt 2 (some .boolean) wsX6_isAt rX6_isAt 0 0 2 ∧ (Cond.static yX6_isAt).before args s = true := cwS 2 C.2.2.2.2.2.1 gX6_isNumbers_X6_isAt rfl rfl rfl (by decide +kernel) ⟨Nat.le_of_ble_eq_true rfl, Nat.le_of_ble_eq_true rfl⟩
noncomputable def fX6_isNumbers (p1 : Int32) (p2 : Int32) (p3 : Int32) : Option (Int32) := (fX6_isAt p1 p2).bind fun r1 => ((if r1 = 0 then (some 0) else ((fX6_in p3 1 20).bind fun r4 => if r4 = 0 then (some 0) else (some 1))) : Option (Int32)).bind fun v3 => gd (isb v3) (some v3)
set_option maxRecDepth 100000 in
set_option maxHeartbeats 4000000 in
theorem kX6_isNumbers (l : Launch) (g : kG) (p1 : Int32) (p2 : Int32) (p3 : Int32) (o1 : Int32) (hm : fX6_isNumbers p1 p2 p3 = some o1) : KM l yX6_isNumbers wsX6_isNumbers rX6_isNumbers g [.int p1, .int p2, .int p3] ([]) (some (.int o1)) ([]) 0 0 := by
  refine KM.of (nL := 3) (by decide) rfl (Nat.le_of_ble_eq_true rfl) ?_
  intro p e s m args below meth c A ls C X hl
  have C : CT g p s m args meth c RX6 cX6_isNumbers 3 (some .boolean) wsX6_isNumbers A := C
  have hx := C.1
  have hb := C.2.1
  have hl : lv_has ls 3 [(0, .int p1), (1, .int p2), (2, .int p3)] := hl
  rw [fX6_isNumbers] at hm
  refine lv_iload_n hx hb dX6_isNumbers_0 rfl (lv_at hl 0 rfl) ?_
  refine lv_iload_n hx hb dX6_isNumbers_1 rfl (lv_at hl 1 rfl) ?_
  obtain ⟨r1, hcl, hm⟩ := bnd hm
  refine kS0 C X (kX6_isAt l g p1 p2 r1 hcl) (cw_X6_isNumbers_X6_isAt_124 C) (As := [.int p1, .int p2]) rfl hl (rest := []) rfl (Nat.le_of_ble_eq_true rfl) (st2 := [.int r1]) rfl dX6_isNumbers_2 ⟨Nat.le_of_ble_eq_true rfl, Nat.le_of_ble_eq_true rfl⟩ (fun H locs X => ?_)
  clear hcl
  obtain ⟨v3, hE, hm⟩ := bnd hm
  have K : ∀ (H : Heap) (locs : List Loc) (ls : Array Slot), ST g A s H locs ([]) → lv_has ls 3 [] → W p l e rX6_isNumbers s m args below meth c H locs 0 0 (kEnd g below args s (some (.int o1)) ([]) A 0 0) (F0 m 23 ls [.int v3]) := by
    intro H locs ls X hl
    clear hE
    obtain ⟨hgb, hm⟩ := gd_t hm
    cases sm hm
    exact kzret (isb_n hgb) C X dX6_isNumbers_23
  clear hm
  have hm := hE
  clear hE
  refine lv_if_eq (tgt := 22) hx hb dX6_isNumbers_5 (by decide) (fun hc => ?_) (fun hc => ?_)
  · have hm := ifp hc hm
    refine lv_iconst (v := 0) hx hb dX6_isNumbers_22 (by decide) ?_
    cases sm hm
    exact K _ _ _ X (lv_sub hl [] rfl)
  · have hm := ifn hc hm
    refine lv_iload_n hx hb dX6_isNumbers_8 rfl (lv_at hl 2 rfl) ?_
    refine lv_iconst (v := 1) hx hb dX6_isNumbers_9 (by decide) ?_
    refine lv_bipush (v := 20) hx hb dX6_isNumbers_10 (by decide) ?_
    obtain ⟨r4, hcl, hm⟩ := bnd hm
    refine kS0 C X (kX6_in l g p3 1 20 r4 hcl) (cw_X6_isNumbers_X6_in_39 C) (As := [.int p3, .int 1, .int 20]) rfl hl (rest := []) rfl (Nat.le_of_ble_eq_true rfl) (st2 := [.int r4]) rfl dX6_isNumbers_12 ⟨Nat.le_of_ble_eq_true rfl, Nat.le_of_ble_eq_true rfl⟩ (fun H locs X => ?_)
    clear hcl
    refine lv_if_eq (tgt := 22) hx hb dX6_isNumbers_15 (by decide) (fun hc => ?_) (fun hc => ?_)
    · have hm := ifp hc hm
      refine lv_iconst (v := 0) hx hb dX6_isNumbers_22 (by decide) ?_
      cases sm hm
      exact K _ _ _ X (lv_sub hl [] rfl)
    · have hm := ifn hc hm
      refine lv_iconst (v := 1) hx hb dX6_isNumbers_18 (by decide) ?_
      refine lv_goto (tgt := 23) hx hb dX6_isNumbers_19 (by decide) ?_
      cases sm hm
      exact K _ _ _ X (lv_sub hl [] rfl)
-- X6 BrushStrokesModel.insert(IIIII)I
abbrev rX6_insert : Room := { frames := 3, cells := 0, slots := 0, locals := 65 }
theorem fl_X6_insert_35 : (Cond.fieldLink RX6 35 "BrushStrokesModel" "thrown" "I") ∈ wsX6_insert := by decide +kernel
theorem fl_X6_insert_7 : (Cond.fieldLink RX6 7 "BrushStrokesModel" "z" "[I") ∈ wsX6_insert := by decide +kernel
theorem in_X6_insert_X6 : ∀ w ∈ u_ws RX6 TX6 16, w ∈ wsX6_insert := by decide +kernel
theorem cw_X6_insert_X6_of_65 {p : Program} {s : State} {m : MethodId} {args : Array Value} {meth : Method} {c : Code} {g : kG} {A : Nat → Prop} (C : CT g p s m args meth c RX6 cX6_insert 8 (some .int) wsX6_insert A) : CallW rX6_insert s args RX6 RX6 65 yX6_of cX6_of 4 (some .int) wsX6_of rX6_of 0 0 3 := cwV 3 C.2.2.2.2.2.1 gX6_insert_X6_of rfl rfl rfl (by decide +kernel) ⟨Nat.le_of_ble_eq_true rfl, Nat.le_of_ble_eq_true rfl⟩
theorem cw_X6_insert_X6_points_47 {p : Program} {s : State} {m : MethodId} {args : Array Value} {meth : Method} {c : Code} {g : kG} {A : Nat → Prop} (C : CT g p s m args meth c RX6 cX6_insert 8 (some .int) wsX6_insert A) : CallW rX6_insert s args RX6 RX6 47 yX6_points cX6_points 2 (some .int) wsX6_points rX6_points 0 0 1 := cwV 1 C.2.2.2.2.2.1 gX6_insert_X6_points rfl rfl rfl (by decide +kernel) ⟨Nat.le_of_ble_eq_true rfl, Nat.le_of_ble_eq_true rfl⟩
theorem cw_X6_insert_X6_put_130 {p : Program} {s : State} {m : MethodId} {args : Array Value} {meth : Method} {c : Code} {g : kG} {A : Nat → Prop} (C : CT g p s m args meth c RX6 cX6_insert 8 (some .int) wsX6_insert A) : CallW rX6_insert s args RX6 RX6 130 yX6_put cX6_put 7 none wsX6_put rX6_put 0 0 5 := cwV 5 C.2.2.2.2.2.1 gX6_insert_X6_put rfl rfl rfl (by decide +kernel) ⟨Nat.le_of_ble_eq_true rfl, Nat.le_of_ble_eq_true rfl⟩
theorem cw_X6_insert_X6_in_39 {p : Program} {s : State} {m : MethodId} {args : Array Value} {meth : Method} {c : Code} {g : kG} {A : Nat → Prop} (C : CT g p s m args meth c RX6 cX6_insert 8 (some .int) wsX6_insert A) : CallB rX6_insert s args RX6 39 yX6_in cX6_in 3 (some .boolean) wsX6_in rX6_in 0 0 3 ∧ (Cond.static yX6_in).before args s = true := cwS 3 C.2.2.2.2.2.1 gX6_insert_X6_in rfl rfl rfl (by decide +kernel) ⟨Nat.le_of_ble_eq_true rfl, Nat.le_of_ble_eq_true rfl⟩
theorem cw_X6_insert_X6_keepAll_120 {p : Program} {s : State} {m : MethodId} {args : Array Value} {meth : Method} {c : Code} {g : kG} {A : Nat → Prop} (C : CT g p s m args meth c RX6 cX6_insert 8 (some .int) wsX6_insert A) : CallW rX6_insert s args RX6 RX6 120 yX6_keepAll cX6_keepAll 2 none wsX6_keepAll rX6_keepAll 0 0 1 := cwV 1 C.2.2.2.2.2.1 gX6_insert_X6_keepAll rfl rfl rfl (by decide +kernel) ⟨Nat.le_of_ble_eq_true rfl, Nat.le_of_ble_eq_true rfl⟩
theorem cw_X6_insert_X6_isStroke_43 {p : Program} {s : State} {m : MethodId} {args : Array Value} {meth : Method} {c : Code} {g : kG} {A : Nat → Prop} (C : CT g p s m args meth c RX6 cX6_insert 8 (some .int) wsX6_insert A) : CallW rX6_insert s args RX6 RX6 43 yX6_isStroke cX6_isStroke 2 (some .boolean) wsX6_isStroke rX6_isStroke 0 0 1 := cwV 1 C.2.2.2.2.2.1 gX6_insert_X6_isStroke rfl rfl rfl (by decide +kernel) ⟨Nat.le_of_ble_eq_true rfl, Nat.le_of_ble_eq_true rfl⟩
theorem cw_X6_insert_X6_isNumbers_144 {p : Program} {s : State} {m : MethodId} {args : Array Value} {meth : Method} {c : Code} {g : kG} {A : Nat → Prop} (C : CT g p s m args meth c RX6 cX6_insert 8 (some .int) wsX6_insert A) : CallB rX6_insert s args RX6 144 yX6_isNumbers cX6_isNumbers 3 (some .boolean) wsX6_isNumbers rX6_isNumbers 0 0 3 ∧ (Cond.static yX6_isNumbers).before args s = true := cwS 3 C.2.2.2.2.2.1 gX6_insert_X6_isNumbers rfl rfl rfl (by decide +kernel) ⟨Nat.le_of_ble_eq_true rfl, Nat.le_of_ble_eq_true rfl⟩
theorem cw_X6_insert_X6_record_62 {p : Program} {s : State} {m : MethodId} {args : Array Value} {meth : Method} {c : Code} {g : kG} {A : Nat → Prop} (C : CT g p s m args meth c RX6 cX6_insert 8 (some .int) wsX6_insert A) : CallW rX6_insert s args RX6 RX6 62 yX6_record cX6_record 2 none wsX6_record rX6_record 0 0 0 := cwV 0 C.2.2.2.2.2.1 gX6_insert_X6_record rfl rfl rfl (by decide +kernel) ⟨Nat.le_of_ble_eq_true rfl, Nat.le_of_ble_eq_true rfl⟩
noncomputable def bX6_insert_91 (c15 : Int32) (c16 : Int32) : Int32 × MS → Option ((Int32 × MS) ⊕ (MS))
  | (x20, u21) => if x20 ≤ c16 then (some (.inr u21)) else ((fX6_of c15 (x20 - 1) 0 u21).bind fun r23 => (fX6_of c15 (x20 - 1) 1 u21).bind fun r24 => (fX6_of c15 (x20 - 1) 2 u21).bind fun r25 => (fX6_put c15 x20 r23 r24 r25 u21).bind fun u26 => some (.inl (x20 + (-1), u26)))
noncomputable def lX6_insert_91 (c15 : Int32) (c16 : Int32) (x20 : Int32) (u21 : MS) : Option (MS) := lp (bX6_insert_91 c15 c16) (x20, u21)
theorem lX6_insert_91_eq (c15 : Int32) (c16 : Int32) (x20 : Int32) (u21 : MS) : lX6_insert_91 c15 c16 x20 u21 = (if x20 ≤ c16 then (some (.inr u21)) else ((fX6_of c15 (x20 - 1) 0 u21).bind fun r23 => (fX6_of c15 (x20 - 1) 1 u21).bind fun r24 => (fX6_of c15 (x20 - 1) 2 u21).bind fun r25 => (fX6_put c15 x20 r23 r24 r25 u21).bind fun u26 => some (.inl (x20 + (-1), u26)))).bind fun r => Sum.elim (fun z => lX6_insert_91 c15 c16 z.1 z.2) (fun r => some r) r := lp_eq (bX6_insert_91 c15 c16) (x20, u21)
set_option maxRecDepth 100000 in
set_option maxHeartbeats 4000000 in
theorem tX6_insert_91 {p : Program} {l : Launch} {e : Env} {s : State} {m : MethodId} {args : Array Value} {below : List Frame} {meth : Method} {c : Code} {g : kG} {A : Nat → Prop} {Q : State → Prop} (a : Nat → Nat) (C : CT g p s m args meth c RX6 cX6_insert 8 (some .int) wsX6_insert A) (c15 : Int32) (c16 : Int32) (c17 : Int32) (c18 : Int32) (c19 : Int32) (u22 : MS) (kk : ∀ (H : Heap) (locs : List Loc) (ls : Array Slot), ST g A s H locs (wM g a u22) → lv_has ls 8 [(0, .ref (a 0)), (1, .int c15), (2, .int c16), (3, .int c17), (4, .int c18), (5, .int c19)] → W p l e rX6_insert s m args below meth c H locs 0 0 Q (F0 m 140 ls [])) : ∀ (n : Nat) (x20 : Int32) (u21 : MS), whl (bX6_insert_91 c15 c16) n (x20, u21) = some u22 → ∀ (H : Heap) (locs : List Loc) (ls : Array Slot), ST g A s H locs (wM g a u21) → lv_has ls 8 [(0, .ref (a 0)), (1, .int c15), (2, .int c16), (3, .int c17), (4, .int c18), (5, .int c19), (7, .int x20)] → W p l e rX6_insert s m args below meth c H locs 0 0 Q (F0 m 91 ls []) := by
  have hx := C.1
  have hb := C.2.1
  intro n
  induction n with
  | zero =>
    intro x20 u21 hm
    cases hm
  | succ n ih =>
    intro x20 u21 hm H locs ls X hl
    rw [whl] at hm
    obtain ⟨q, hq, hm2⟩ := bnd hm
    clear hm
    have hm := hq
    clear hq
    rw [bX6_insert_91] at hm
    refine lv_iload hx hb dX6_insert_91 (lv_at hl 6 rfl) ?_
    refine lv_iload_n hx hb dX6_insert_93 rfl (lv_at hl 2 rfl) ?_
    refine lv_icmp_le (tgt := 140) hx hb dX6_insert_94 (by decide) (fun hc => ?_) (fun hc => ?_)
    · have hm := ifp hc hm
      cases sm hm
      cases sm hm2
      exact kk _ _ _ X (lv_sub hl [0, 1, 2, 3, 4, 5] rfl)
    · have hm := ifn hc hm
      refine lv_aload_n hx hb dX6_insert_97 rfl (lv_at hl 0 rfl) ?_
      refine lv_iload_n hx hb dX6_insert_98 rfl (lv_at hl 1 rfl) ?_
      refine lv_iload hx hb dX6_insert_99 (lv_at hl 6 rfl) ?_
      refine lv_aload_n hx hb dX6_insert_101 rfl (lv_at hl 0 rfl) ?_
      refine lv_iload_n hx hb dX6_insert_102 rfl (lv_at hl 1 rfl) ?_
      refine lv_iload hx hb dX6_insert_103 (lv_at hl 6 rfl) ?_
      refine lv_iconst (v := 1) hx hb dX6_insert_105 (by decide) ?_
      refine lv_isub hx hb dX6_insert_106 ?_
      refine lv_iconst (v := 0) hx hb dX6_insert_107 (by decide) ?_
      obtain ⟨r23, hcl, hm⟩ := bnd hm
      refine kVW C X (kX6_of l g a c15 (x20 - 1) 0 u21 r23 hcl) (cw_X6_insert_X6_of_65 C) 0 (ci := 6) rfl rfl (As := [.int c15, .int (x20 - 1), .int 0]) rfl hl (rest := [.int x20, .int c15, .ref (a 0)]) rfl (Nat.le_of_ble_eq_true rfl) (st2 := [.int r23, .int x20, .int c15, .ref (a 0)]) rfl dX6_insert_108 ⟨Nat.le_of_ble_eq_true rfl, Nat.le_of_ble_eq_true rfl⟩ (fun H locs X => ?_)
      clear hcl
      refine lv_aload_n hx hb dX6_insert_111 rfl (lv_at hl 0 rfl) ?_
      refine lv_iload_n hx hb dX6_insert_112 rfl (lv_at hl 1 rfl) ?_
      refine lv_iload hx hb dX6_insert_113 (lv_at hl 6 rfl) ?_
      refine lv_iconst (v := 1) hx hb dX6_insert_115 (by decide) ?_
      refine lv_isub hx hb dX6_insert_116 ?_
      refine lv_iconst (v := 1) hx hb dX6_insert_117 (by decide) ?_
      obtain ⟨r24, hcl, hm⟩ := bnd hm
      refine kVW C X (kX6_of l g a c15 (x20 - 1) 1 u21 r24 hcl) (cw_X6_insert_X6_of_65 C) 0 (ci := 6) rfl rfl (As := [.int c15, .int (x20 - 1), .int 1]) rfl hl (rest := [.int r23, .int x20, .int c15, .ref (a 0)]) rfl (Nat.le_of_ble_eq_true rfl) (st2 := [.int r24, .int r23, .int x20, .int c15, .ref (a 0)]) rfl dX6_insert_118 ⟨Nat.le_of_ble_eq_true rfl, Nat.le_of_ble_eq_true rfl⟩ (fun H locs X => ?_)
      clear hcl
      refine lv_aload_n hx hb dX6_insert_121 rfl (lv_at hl 0 rfl) ?_
      refine lv_iload_n hx hb dX6_insert_122 rfl (lv_at hl 1 rfl) ?_
      refine lv_iload hx hb dX6_insert_123 (lv_at hl 6 rfl) ?_
      refine lv_iconst (v := 1) hx hb dX6_insert_125 (by decide) ?_
      refine lv_isub hx hb dX6_insert_126 ?_
      refine lv_iconst (v := 2) hx hb dX6_insert_127 (by decide) ?_
      obtain ⟨r25, hcl, hm⟩ := bnd hm
      refine kVW C X (kX6_of l g a c15 (x20 - 1) 2 u21 r25 hcl) (cw_X6_insert_X6_of_65 C) 0 (ci := 6) rfl rfl (As := [.int c15, .int (x20 - 1), .int 2]) rfl hl (rest := [.int r24, .int r23, .int x20, .int c15, .ref (a 0)]) rfl (Nat.le_of_ble_eq_true rfl) (st2 := [.int r25, .int r24, .int r23, .int x20, .int c15, .ref (a 0)]) rfl dX6_insert_128 ⟨Nat.le_of_ble_eq_true rfl, Nat.le_of_ble_eq_true rfl⟩ (fun H locs X => ?_)
      clear hcl
      obtain ⟨u26, hcl, hm⟩ := bnd hm
      refine kVW C X (kX6_put l g a c15 x20 r23 r24 r25 u21 u26 hcl) (cw_X6_insert_X6_put_130 C) 0 (ci := 6) rfl rfl (As := [.int c15, .int x20, .int r23, .int r24, .int r25]) rfl hl (rest := []) rfl (Nat.le_of_ble_eq_true rfl) (st2 := []) rfl dX6_insert_131 ⟨Nat.le_of_ble_eq_true rfl, Nat.le_of_ble_eq_true rfl⟩ (fun H locs X => ?_)
      clear hcl
      refine lv_iinc (v := x20 + (-1)) (lv' := [(7, .int (x20 + (-1))), (0, .ref (a 0)), (1, .int c15), (2, .int c16), (3, .int c17), (4, .int c18), (5, .int c19)]) hx hb dX6_insert_134 hl (k := 6) rfl rfl (by decide) rfl (fun ls hl => ?_)
      refine lv_goto (tgt := 91) hx hb dX6_insert_137 (by decide) ?_
      cases sm hm
      exact ih _ _ hm2 _ _ _ X (lv_sub hl [1, 2, 3, 4, 5, 6, 0] rfl)
noncomputable def fX6_insert (p1 : Int32) (p2 : Int32) (p3 : Int32) (p4 : Int32) (p5 : Int32) (u : MS) : Option (Int32 × MS) := (fX6_isStroke p1 u).bind fun r1 => ((if r1 = 0 then (some 0) else ((fX6_points p1 u).bind fun r5 => (fX6_in p2 0 r5).bind fun r6 => if r6 = 0 then (some 0) else (some 1))) : Option (Int32)).bind fun v4 => ((if v4 = 0 then (some 1) else ((fX6_isNumbers p3 p4 p5).bind fun r10 => if r10 = 0 then (some 2) else ((fX6_points p1 u).bind fun r11 => if r11 = 24 then (some 3) else (some 0)))) : Option (Int32)).bind fun v9 => lt (M_s_thrown u v9) fun u12 => if (M_thrown u12) ≤ 0 then ((fX6_record u12).bind fun u13 => (fX6_points p1 u13).bind fun r14 => (lX6_insert_91 p1 p2 r14 u13).bind fun u27 => (fX6_put p1 p2 p3 p4 p5 u27).bind fun u28 => gd (inb (74 * p1) 303) (gd (inb (74 * p1) 303) (lt (M_s_z u28 (upd (M_z u28) (74 * p1).toNatClampNeg ((M_z u28 (74 * p1).toNatClampNeg) + 1))) fun u29 => (fX6_keepAll p1 u29).bind fun u30 => (fX6_points p1 u30).bind fun r31 => some (r31, u30)))) else (some (0, u12))
set_option maxRecDepth 100000 in
set_option maxHeartbeats 4000000 in
theorem kX6_insert (l : Launch) (g : kG) (a : Nat → Nat) (p1 : Int32) (p2 : Int32) (p3 : Int32) (p4 : Int32) (p5 : Int32) (u : MS) (o1 : Int32) (o2 : MS) (hm : fX6_insert p1 p2 p3 p4 p5 u = some (o1, o2)) : KM l yX6_insert wsX6_insert rX6_insert g [.ref (a 0), .int p1, .int p2, .int p3, .int p4, .int p5] (wM g a u) (some (.int o1)) (wM g a o2) 0 0 := by
  refine KM.of (nL := 8) (by decide) rfl (Nat.le_of_ble_eq_true rfl) ?_
  intro p e s m args below meth c A ls C X hl
  have C : CT g p s m args meth c RX6 cX6_insert 8 (some .int) wsX6_insert A := C
  have hx := C.1
  have hb := C.2.1
  have hl : lv_has ls 8 [(0, .ref (a 0)), (1, .int p1), (2, .int p2), (3, .int p3), (4, .int p4), (5, .int p5)] := hl
  have hinX6 := in_X6_insert_X6
  have hf7 := C.2.2.2.2.2.1 _ fl_X6_insert_7
  have hf35 := C.2.2.2.2.2.1 _ fl_X6_insert_35
  rw [fX6_insert] at hm
  refine lv_aload_n hx hb dX6_insert_0 rfl (lv_at hl 0 rfl) ?_
  refine lv_iload_n hx hb dX6_insert_1 rfl (lv_at hl 1 rfl) ?_
  obtain ⟨r1, hcl, hm⟩ := bnd hm
  refine kVW C X (kX6_isStroke l g a p1 u r1 hcl) (cw_X6_insert_X6_isStroke_43 C) 0 (ci := 6) rfl rfl (As := [.int p1]) rfl hl (rest := []) rfl (Nat.le_of_ble_eq_true rfl) (st2 := [.int r1]) rfl dX6_insert_2 ⟨Nat.le_of_ble_eq_true rfl, Nat.le_of_ble_eq_true rfl⟩ (fun H locs X => ?_)
  clear hcl
  obtain ⟨v4, hE, hm⟩ := bnd hm
  have K : ∀ (H : Heap) (locs : List Loc) (ls : Array Slot), ST g A s H locs (wM g a u) → lv_has ls 8 [(0, .ref (a 0)), (1, .int p1), (2, .int p2), (3, .int p3), (4, .int p4), (5, .int p5)] → W p l e rX6_insert s m args below meth c H locs 0 0 (kEnd g below args s (some (.int o1)) (wM g a o2) A 0 0) (F0 m 26 ls [.int v4]) := by
    intro H locs ls X hl
    clear hE
    refine lv_istore (lv' := [(6, .int v4), (0, .ref (a 0)), (1, .int p1), (2, .int p2), (3, .int p3), (4, .int p4), (5, .int p5)]) hx hb dX6_insert_26 hl (by decide) rfl (fun ls hl => ?_)
    refine lv_aload_n hx hb dX6_insert_28 rfl (lv_at hl 1 rfl) ?_
    refine lv_iload hx hb dX6_insert_29 (lv_at hl 0 rfl) ?_
    obtain ⟨v9, hE, hm⟩ := bnd hm
    have K : ∀ (H : Heap) (locs : List Loc) (ls : Array Slot), ST g A s H locs (wM g a u) → lv_has ls 8 [(0, .ref (a 0)), (1, .int p1), (2, .int p2), (3, .int p3), (4, .int p4), (5, .int p5)] → W p l e rX6_insert s m args below meth c H locs 0 0 (kEnd g below args s (some (.int o1)) (wM g a o2) A 0 0) (F0 m 68 ls [.int v9, .ref (a 0)]) := by
      intro H locs ls X hl
      clear hE
      obtain ⟨u12, eu⟩ : ∃ z, z = M_s_thrown u v9 := ⟨_, rfl⟩
      have hm := lt_t eu hm
      refine kput C X 0 (ci := 6) rfl rfl hinX6 tyX6_ok nmX6 0 (by decide) hf35 rfl (ty := .int) (v := .int v9) rfl rfl rfl (Nat.le_of_ble_eq_true rfl) (w2 := wM g a u12) (by subst eu; rfl) dX6_insert_68 (fun H locs X => ?_)
      clear eu
      refine lv_aload_n hx hb dX6_insert_71 rfl (lv_at hl 0 rfl) ?_
      refine kget C X 0 (ci := 6) rfl rfl hinX6 0 (by decide) hf35 (v := .int (M_thrown u12)) rfl dX6_insert_72 ?_
      refine lv_if_le (tgt := 80) hx hb dX6_insert_75 (by decide) (fun hc => ?_) (fun hc => ?_)
      · have hm := ifp hc hm
        refine lv_aload_n hx hb dX6_insert_80 rfl (lv_at hl 0 rfl) ?_
        obtain ⟨u13, hcl, hm⟩ := bnd hm
        refine kVW C X (kX6_record l g a u12 u13 hcl) (cw_X6_insert_X6_record_62 C) 0 (ci := 6) rfl rfl (As := []) rfl hl (rest := []) rfl (Nat.le_of_ble_eq_true rfl) (st2 := []) rfl dX6_insert_81 ⟨Nat.le_of_ble_eq_true rfl, Nat.le_of_ble_eq_true rfl⟩ (fun H locs X => ?_)
        clear hcl
        refine lv_aload_n hx hb dX6_insert_84 rfl (lv_at hl 0 rfl) ?_
        refine lv_iload_n hx hb dX6_insert_85 rfl (lv_at hl 1 rfl) ?_
        obtain ⟨r14, hcl, hm⟩ := bnd hm
        refine kVW C X (kX6_points l g a p1 u13 r14 hcl) (cw_X6_insert_X6_points_47 C) 0 (ci := 6) rfl rfl (As := [.int p1]) rfl hl (rest := []) rfl (Nat.le_of_ble_eq_true rfl) (st2 := [.int r14]) rfl dX6_insert_86 ⟨Nat.le_of_ble_eq_true rfl, Nat.le_of_ble_eq_true rfl⟩ (fun H locs X => ?_)
        clear hcl
        refine lv_istore (lv' := [(7, .int r14), (0, .ref (a 0)), (1, .int p1), (2, .int p2), (3, .int p3), (4, .int p4), (5, .int p5)]) hx hb dX6_insert_89 hl (by decide) rfl (fun ls hl => ?_)
        obtain ⟨u27, hL, hm⟩ := bnd hm
        obtain ⟨nn, hn⟩ := lp_run hL
        refine tX6_insert_91 a C p1 p2 p3 p4 p5 u27 (fun H locs ls X hl => ?_) nn _ _ hn _ _ _ X (lv_sub hl [1, 2, 3, 4, 5, 6, 0] rfl)
        clear hL hn
        refine lv_aload_n hx hb dX6_insert_140 rfl (lv_at hl 0 rfl) ?_
        refine lv_iload_n hx hb dX6_insert_141 rfl (lv_at hl 1 rfl) ?_
        refine lv_iload_n hx hb dX6_insert_142 rfl (lv_at hl 2 rfl) ?_
        refine lv_iload_n hx hb dX6_insert_143 rfl (lv_at hl 3 rfl) ?_
        refine lv_iload hx hb dX6_insert_144 (lv_at hl 4 rfl) ?_
        refine lv_iload hx hb dX6_insert_146 (lv_at hl 5 rfl) ?_
        obtain ⟨u28, hcl, hm⟩ := bnd hm
        refine kVW C X (kX6_put l g a p1 p2 p3 p4 p5 u27 u28 hcl) (cw_X6_insert_X6_put_130 C) 0 (ci := 6) rfl rfl (As := [.int p1, .int p2, .int p3, .int p4, .int p5]) rfl hl (rest := []) rfl (Nat.le_of_ble_eq_true rfl) (st2 := []) rfl dX6_insert_148 ⟨Nat.le_of_ble_eq_true rfl, Nat.le_of_ble_eq_true rfl⟩ (fun H locs X => ?_)
        clear hcl
        refine lv_aload_n hx hb dX6_insert_151 rfl (lv_at hl 0 rfl) ?_
        refine kget C X 0 (ci := 6) rfl rfl hinX6 1 (by decide) hf7 (v := .ref (a 1)) rfl dX6_insert_152 ?_
        refine lv_bipush (v := 74) hx hb dX6_insert_155 (by decide) ?_
        refine lv_iload_n hx hb dX6_insert_157 rfl (lv_at hl 1 rfl) ?_
        refine lv_imul hx hb dX6_insert_158 ?_
        refine lv_dup2_11 hx hb dX6_insert_159 rfl rfl ?_
        obtain ⟨hgi, hm⟩ := gd_t hm
        refine kiald C X 1 rfl hgi dX6_insert_160 ?_
        refine lv_iconst (v := 1) hx hb dX6_insert_161 (by decide) ?_
        refine lv_iadd hx hb dX6_insert_162 ?_
        obtain ⟨hgi, hm⟩ := gd_t hm
        obtain ⟨u29, eu⟩ : ∃ z, z = M_s_z u28 (upd (M_z u28) (74 * p1).toNatClampNeg ((M_z u28 (74 * p1).toNatClampNeg) + 1)) := ⟨_, rfl⟩
        have hm := lt_t eu hm
        refine kiast C X 1 rfl hgi (w2 := wM g a u29) (by subst eu; rfl) dX6_insert_163 (fun H locs X => ?_)
        clear eu
        refine lv_aload_n hx hb dX6_insert_164 rfl (lv_at hl 0 rfl) ?_
        refine lv_iload_n hx hb dX6_insert_165 rfl (lv_at hl 1 rfl) ?_
        obtain ⟨u30, hcl, hm⟩ := bnd hm
        refine kVW C X (kX6_keepAll l g a p1 u29 u30 hcl) (cw_X6_insert_X6_keepAll_120 C) 0 (ci := 6) rfl rfl (As := [.int p1]) rfl hl (rest := []) rfl (Nat.le_of_ble_eq_true rfl) (st2 := []) rfl dX6_insert_166 ⟨Nat.le_of_ble_eq_true rfl, Nat.le_of_ble_eq_true rfl⟩ (fun H locs X => ?_)
        clear hcl
        refine lv_aload_n hx hb dX6_insert_169 rfl (lv_at hl 0 rfl) ?_
        refine lv_iload_n hx hb dX6_insert_170 rfl (lv_at hl 1 rfl) ?_
        obtain ⟨r31, hcl, hm⟩ := bnd hm
        refine kVW C X (kX6_points l g a p1 u30 r31 hcl) (cw_X6_insert_X6_points_47 C) 0 (ci := 6) rfl rfl (As := [.int p1]) rfl hl (rest := []) rfl (Nat.le_of_ble_eq_true rfl) (st2 := [.int r31]) rfl dX6_insert_171 ⟨Nat.le_of_ble_eq_true rfl, Nat.le_of_ble_eq_true rfl⟩ (fun H locs X => ?_)
        clear hcl
        cases sm hm
        exact kiret C X dX6_insert_174
      · have hm := ifn hc hm
        refine lv_iconst (v := 0) hx hb dX6_insert_78 (by decide) ?_
        cases sm hm
        exact kiret C X dX6_insert_79
    clear hm
    have hm := hE
    clear hE
    refine lv_if_ne (tgt := 38) hx hb dX6_insert_31 (by decide) (fun hc => ?_) (fun hc => ?_)
    · have hm := ifn hc hm
      refine lv_iload_n hx hb dX6_insert_38 rfl (lv_at hl 4 rfl) ?_
      refine lv_iload hx hb dX6_insert_39 (lv_at hl 5 rfl) ?_
      refine lv_iload hx hb dX6_insert_41 (lv_at hl 6 rfl) ?_
      obtain ⟨r10, hcl, hm⟩ := bnd hm
      refine kS0 C X (kX6_isNumbers l g p3 p4 p5 r10 hcl) (cw_X6_insert_X6_isNumbers_144 C) (As := [.int p3, .int p4, .int p5]) rfl hl (rest := [.ref (a 0)]) rfl (Nat.le_of_ble_eq_true rfl) (st2 := [.int r10, .ref (a 0)]) rfl dX6_insert_43 ⟨Nat.le_of_ble_eq_true rfl, Nat.le_of_ble_eq_true rfl⟩ (fun H locs X => ?_)
      clear hcl
      refine lv_if_ne (tgt := 53) hx hb dX6_insert_46 (by decide) (fun hc => ?_) (fun hc => ?_)
      · have hm := ifn hc hm
        refine lv_aload_n hx hb dX6_insert_53 rfl (lv_at hl 1 rfl) ?_
        refine lv_iload_n hx hb dX6_insert_54 rfl (lv_at hl 2 rfl) ?_
        obtain ⟨r11, hcl, hm⟩ := bnd hm
        refine kVW C X (kX6_points l g a p1 u r11 hcl) (cw_X6_insert_X6_points_47 C) 0 (ci := 6) rfl rfl (As := [.int p1]) rfl hl (rest := [.ref (a 0)]) rfl (Nat.le_of_ble_eq_true rfl) (st2 := [.int r11, .ref (a 0)]) rfl dX6_insert_55 ⟨Nat.le_of_ble_eq_true rfl, Nat.le_of_ble_eq_true rfl⟩ (fun H locs X => ?_)
        clear hcl
        refine lv_bipush (v := 24) hx hb dX6_insert_58 (by decide) ?_
        refine lv_icmp_ne (tgt := 67) hx hb dX6_insert_60 (by decide) (fun hc => ?_) (fun hc => ?_)
        · have hm := ifn hc hm
          refine lv_iconst (v := 0) hx hb dX6_insert_67 (by decide) ?_
          cases sm hm
          exact K _ _ _ X (lv_sub hl [1, 2, 3, 4, 5, 6] rfl)
        · have hm := ifp hc hm
          refine lv_iconst (v := 3) hx hb dX6_insert_63 (by decide) ?_
          refine lv_goto (tgt := 68) hx hb dX6_insert_64 (by decide) ?_
          cases sm hm
          exact K _ _ _ X (lv_sub hl [1, 2, 3, 4, 5, 6] rfl)
      · have hm := ifp hc hm
        refine lv_iconst (v := 2) hx hb dX6_insert_49 (by decide) ?_
        refine lv_goto (tgt := 68) hx hb dX6_insert_50 (by decide) ?_
        cases sm hm
        exact K _ _ _ X (lv_sub hl [1, 2, 3, 4, 5, 6] rfl)
    · have hm := ifp hc hm
      refine lv_iconst (v := 1) hx hb dX6_insert_34 (by decide) ?_
      refine lv_goto (tgt := 68) hx hb dX6_insert_35 (by decide) ?_
      cases sm hm
      exact K _ _ _ X (lv_sub hl [1, 2, 3, 4, 5, 6] rfl)
  clear hm
  have hm := hE
  clear hE
  refine lv_if_eq (tgt := 25) hx hb dX6_insert_5 (by decide) (fun hc => ?_) (fun hc => ?_)
  · have hm := ifp hc hm
    refine lv_iconst (v := 0) hx hb dX6_insert_25 (by decide) ?_
    cases sm hm
    exact K _ _ _ X (lv_sub hl [0, 1, 2, 3, 4, 5] rfl)
  · have hm := ifn hc hm
    refine lv_iload_n hx hb dX6_insert_8 rfl (lv_at hl 2 rfl) ?_
    refine lv_iconst (v := 0) hx hb dX6_insert_9 (by decide) ?_
    refine lv_aload_n hx hb dX6_insert_10 rfl (lv_at hl 0 rfl) ?_
    refine lv_iload_n hx hb dX6_insert_11 rfl (lv_at hl 1 rfl) ?_
    obtain ⟨r5, hcl, hm⟩ := bnd hm
    refine kVW C X (kX6_points l g a p1 u r5 hcl) (cw_X6_insert_X6_points_47 C) 0 (ci := 6) rfl rfl (As := [.int p1]) rfl hl (rest := [.int 0, .int p2]) rfl (Nat.le_of_ble_eq_true rfl) (st2 := [.int r5, .int 0, .int p2]) rfl dX6_insert_12 ⟨Nat.le_of_ble_eq_true rfl, Nat.le_of_ble_eq_true rfl⟩ (fun H locs X => ?_)
    clear hcl
    obtain ⟨r6, hcl, hm⟩ := bnd hm
    refine kS0 C X (kX6_in l g p2 0 r5 r6 hcl) (cw_X6_insert_X6_in_39 C) (As := [.int p2, .int 0, .int r5]) rfl hl (rest := []) rfl (Nat.le_of_ble_eq_true rfl) (st2 := [.int r6]) rfl dX6_insert_15 ⟨Nat.le_of_ble_eq_true rfl, Nat.le_of_ble_eq_true rfl⟩ (fun H locs X => ?_)
    clear hcl
    refine lv_if_eq (tgt := 25) hx hb dX6_insert_18 (by decide) (fun hc => ?_) (fun hc => ?_)
    · have hm := ifp hc hm
      refine lv_iconst (v := 0) hx hb dX6_insert_25 (by decide) ?_
      cases sm hm
      exact K _ _ _ X (lv_sub hl [0, 1, 2, 3, 4, 5] rfl)
    · have hm := ifn hc hm
      refine lv_iconst (v := 1) hx hb dX6_insert_21 (by decide) ?_
      refine lv_goto (tgt := 26) hx hb dX6_insert_22 (by decide) ?_
      cases sm hm
      exact K _ _ _ X (lv_sub hl [0, 1, 2, 3, 4, 5] rfl)
-- X6 BrushStrokesModel.change(IIIII)I
abbrev rX6_change : Room := { frames := 3, cells := 0, slots := 0, locals := 65 }
theorem fl_X6_change_35 : (Cond.fieldLink RX6 35 "BrushStrokesModel" "thrown" "I") ∈ wsX6_change := by decide +kernel
theorem in_X6_change_X6 : ∀ w ∈ u_ws RX6 TX6 16, w ∈ wsX6_change := by decide +kernel
theorem cw_X6_change_X6_isNumbers_144 {p : Program} {s : State} {m : MethodId} {args : Array Value} {meth : Method} {c : Code} {g : kG} {A : Nat → Prop} (C : CT g p s m args meth c RX6 cX6_change 7 (some .int) wsX6_change A) : CallB rX6_change s args RX6 144 yX6_isNumbers cX6_isNumbers 3 (some .boolean) wsX6_isNumbers rX6_isNumbers 0 0 3 ∧ (Cond.static yX6_isNumbers).before args s = true := cwS 3 C.2.2.2.2.2.1 gX6_change_X6_isNumbers rfl rfl rfl (by decide +kernel) ⟨Nat.le_of_ble_eq_true rfl, Nat.le_of_ble_eq_true rfl⟩
theorem cw_X6_change_X6_isPoint_147 {p : Program} {s : State} {m : MethodId} {args : Array Value} {meth : Method} {c : Code} {g : kG} {A : Nat → Prop} (C : CT g p s m args meth c RX6 cX6_change 7 (some .int) wsX6_change A) : CallW rX6_change s args RX6 RX6 147 yX6_isPoint cX6_isPoint 3 (some .boolean) wsX6_isPoint rX6_isPoint 0 0 2 := cwV 2 C.2.2.2.2.2.1 gX6_change_X6_isPoint rfl rfl rfl (by decide +kernel) ⟨Nat.le_of_ble_eq_true rfl, Nat.le_of_ble_eq_true rfl⟩
theorem cw_X6_change_X6_record_62 {p : Program} {s : State} {m : MethodId} {args : Array Value} {meth : Method} {c : Code} {g : kG} {A : Nat → Prop} (C : CT g p s m args meth c RX6 cX6_change 7 (some .int) wsX6_change A) : CallW rX6_change s args RX6 RX6 62 yX6_record cX6_record 2 none wsX6_record rX6_record 0 0 0 := cwV 0 C.2.2.2.2.2.1 gX6_change_X6_record rfl rfl rfl (by decide +kernel) ⟨Nat.le_of_ble_eq_true rfl, Nat.le_of_ble_eq_true rfl⟩
theorem cw_X6_change_X6_of_65 {p : Program} {s : State} {m : MethodId} {args : Array Value} {meth : Method} {c : Code} {g : kG} {A : Nat → Prop} (C : CT g p s m args meth c RX6 cX6_change 7 (some .int) wsX6_change A) : CallW rX6_change s args RX6 RX6 65 yX6_of cX6_of 4 (some .int) wsX6_of rX6_of 0 0 3 := cwV 3 C.2.2.2.2.2.1 gX6_change_X6_of rfl rfl rfl (by decide +kernel) ⟨Nat.le_of_ble_eq_true rfl, Nat.le_of_ble_eq_true rfl⟩
theorem cw_X6_change_X6_put_130 {p : Program} {s : State} {m : MethodId} {args : Array Value} {meth : Method} {c : Code} {g : kG} {A : Nat → Prop} (C : CT g p s m args meth c RX6 cX6_change 7 (some .int) wsX6_change A) : CallW rX6_change s args RX6 RX6 130 yX6_put cX6_put 7 none wsX6_put rX6_put 0 0 5 := cwV 5 C.2.2.2.2.2.1 gX6_change_X6_put rfl rfl rfl (by decide +kernel) ⟨Nat.le_of_ble_eq_true rfl, Nat.le_of_ble_eq_true rfl⟩
theorem cw_X6_change_X6_keepAll_120 {p : Program} {s : State} {m : MethodId} {args : Array Value} {meth : Method} {c : Code} {g : kG} {A : Nat → Prop} (C : CT g p s m args meth c RX6 cX6_change 7 (some .int) wsX6_change A) : CallW rX6_change s args RX6 RX6 120 yX6_keepAll cX6_keepAll 2 none wsX6_keepAll rX6_keepAll 0 0 1 := cwV 1 C.2.2.2.2.2.1 gX6_change_X6_keepAll rfl rfl rfl (by decide +kernel) ⟨Nat.le_of_ble_eq_true rfl, Nat.le_of_ble_eq_true rfl⟩
noncomputable def fX6_change (p1 : Int32) (p2 : Int32) (p3 : Int32) (p4 : Int32) (p5 : Int32) (u : MS) : Option (Int32 × MS) := (fX6_isPoint p1 p2 u).bind fun r1 => ((if r1 = 0 then (some 1) else ((fX6_isNumbers p3 p4 p5).bind fun r4 => if r4 = 0 then (some 2) else (some 0))) : Option (Int32)).bind fun v3 => lt (M_s_thrown u v3) fun u5 => if (M_thrown u5) ≤ 0 then ((fX6_record u5).bind fun u6 => (fX6_of p1 p2 0 u6).bind fun r7 => (fX6_of p1 p2 1 u6).bind fun r8 => (fX6_put p1 p2 p3 p4 p5 u6).bind fun u9 => (fX6_keepAll p1 u9).bind fun u10 => some ((100 * r7) + r8, u10)) else (some (0, u5))
set_option maxRecDepth 100000 in
set_option maxHeartbeats 4000000 in
theorem kX6_change (l : Launch) (g : kG) (a : Nat → Nat) (p1 : Int32) (p2 : Int32) (p3 : Int32) (p4 : Int32) (p5 : Int32) (u : MS) (o1 : Int32) (o2 : MS) (hm : fX6_change p1 p2 p3 p4 p5 u = some (o1, o2)) : KM l yX6_change wsX6_change rX6_change g [.ref (a 0), .int p1, .int p2, .int p3, .int p4, .int p5] (wM g a u) (some (.int o1)) (wM g a o2) 0 0 := by
  refine KM.of (nL := 7) (by decide) rfl (Nat.le_of_ble_eq_true rfl) ?_
  intro p e s m args below meth c A ls C X hl
  have C : CT g p s m args meth c RX6 cX6_change 7 (some .int) wsX6_change A := C
  have hx := C.1
  have hb := C.2.1
  have hl : lv_has ls 7 [(0, .ref (a 0)), (1, .int p1), (2, .int p2), (3, .int p3), (4, .int p4), (5, .int p5)] := hl
  have hinX6 := in_X6_change_X6
  have hf35 := C.2.2.2.2.2.1 _ fl_X6_change_35
  rw [fX6_change] at hm
  refine lv_aload_n hx hb dX6_change_0 rfl (lv_at hl 0 rfl) ?_
  refine lv_aload_n hx hb dX6_change_1 rfl (lv_at hl 0 rfl) ?_
  refine lv_iload_n hx hb dX6_change_2 rfl (lv_at hl 1 rfl) ?_
  refine lv_iload_n hx hb dX6_change_3 rfl (lv_at hl 2 rfl) ?_
  obtain ⟨r1, hcl, hm⟩ := bnd hm
  refine kVW C X (kX6_isPoint l g a p1 p2 u r1 hcl) (cw_X6_change_X6_isPoint_147 C) 0 (ci := 6) rfl rfl (As := [.int p1, .int p2]) rfl hl (rest := [.ref (a 0)]) rfl (Nat.le_of_ble_eq_true rfl) (st2 := [.int r1, .ref (a 0)]) rfl dX6_change_4 ⟨Nat.le_of_ble_eq_true rfl, Nat.le_of_ble_eq_true rfl⟩ (fun H locs X => ?_)
  clear hcl
  obtain ⟨v3, hE, hm⟩ := bnd hm
  have K : ∀ (H : Heap) (locs : List Loc) (ls : Array Slot), ST g A s H locs (wM g a u) → lv_has ls 7 [(0, .ref (a 0)), (1, .int p1), (2, .int p2), (3, .int p3), (4, .int p4), (5, .int p5)] → W p l e rX6_change s m args below meth c H locs 0 0 (kEnd g below args s (some (.int o1)) (wM g a o2) A 0 0) (F0 m 30 ls [.int v3, .ref (a 0)]) := by
    intro H locs ls X hl
    clear hE
    obtain ⟨u5, eu⟩ : ∃ z, z = M_s_thrown u v3 := ⟨_, rfl⟩
    have hm := lt_t eu hm
    refine kput C X 0 (ci := 6) rfl rfl hinX6 tyX6_ok nmX6 0 (by decide) hf35 rfl (ty := .int) (v := .int v3) rfl rfl rfl (Nat.le_of_ble_eq_true rfl) (w2 := wM g a u5) (by subst eu; rfl) dX6_change_30 (fun H locs X => ?_)
    clear eu
    refine lv_aload_n hx hb dX6_change_33 rfl (lv_at hl 0 rfl) ?_
    refine kget C X 0 (ci := 6) rfl rfl hinX6 0 (by decide) hf35 (v := .int (M_thrown u5)) rfl dX6_change_34 ?_
    refine lv_if_le (tgt := 42) hx hb dX6_change_37 (by decide) (fun hc => ?_) (fun hc => ?_)
    · have hm := ifp hc hm
      refine lv_aload_n hx hb dX6_change_42 rfl (lv_at hl 0 rfl) ?_
      obtain ⟨u6, hcl, hm⟩ := bnd hm
      refine kVW C X (kX6_record l g a u5 u6 hcl) (cw_X6_change_X6_record_62 C) 0 (ci := 6) rfl rfl (As := []) rfl hl (rest := []) rfl (Nat.le_of_ble_eq_true rfl) (st2 := []) rfl dX6_change_43 ⟨Nat.le_of_ble_eq_true rfl, Nat.le_of_ble_eq_true rfl⟩ (fun H locs X => ?_)
      clear hcl
      refine lv_bipush (v := 100) hx hb dX6_change_46 (by decide) ?_
      refine lv_aload_n hx hb dX6_change_48 rfl (lv_at hl 0 rfl) ?_
      refine lv_iload_n hx hb dX6_change_49 rfl (lv_at hl 1 rfl) ?_
      refine lv_iload_n hx hb dX6_change_50 rfl (lv_at hl 2 rfl) ?_
      refine lv_iconst (v := 0) hx hb dX6_change_51 (by decide) ?_
      obtain ⟨r7, hcl, hm⟩ := bnd hm
      refine kVW C X (kX6_of l g a p1 p2 0 u6 r7 hcl) (cw_X6_change_X6_of_65 C) 0 (ci := 6) rfl rfl (As := [.int p1, .int p2, .int 0]) rfl hl (rest := [.int 100]) rfl (Nat.le_of_ble_eq_true rfl) (st2 := [.int r7, .int 100]) rfl dX6_change_52 ⟨Nat.le_of_ble_eq_true rfl, Nat.le_of_ble_eq_true rfl⟩ (fun H locs X => ?_)
      clear hcl
      refine lv_imul hx hb dX6_change_55 ?_
      refine lv_aload_n hx hb dX6_change_56 rfl (lv_at hl 0 rfl) ?_
      refine lv_iload_n hx hb dX6_change_57 rfl (lv_at hl 1 rfl) ?_
      refine lv_iload_n hx hb dX6_change_58 rfl (lv_at hl 2 rfl) ?_
      refine lv_iconst (v := 1) hx hb dX6_change_59 (by decide) ?_
      obtain ⟨r8, hcl, hm⟩ := bnd hm
      refine kVW C X (kX6_of l g a p1 p2 1 u6 r8 hcl) (cw_X6_change_X6_of_65 C) 0 (ci := 6) rfl rfl (As := [.int p1, .int p2, .int 1]) rfl hl (rest := [.int (100 * r7)]) rfl (Nat.le_of_ble_eq_true rfl) (st2 := [.int r8, .int (100 * r7)]) rfl dX6_change_60 ⟨Nat.le_of_ble_eq_true rfl, Nat.le_of_ble_eq_true rfl⟩ (fun H locs X => ?_)
      clear hcl
      refine lv_iadd hx hb dX6_change_63 ?_
      refine lv_istore (lv' := [(6, .int ((100 * r7) + r8)), (0, .ref (a 0)), (1, .int p1), (2, .int p2), (3, .int p3), (4, .int p4), (5, .int p5)]) hx hb dX6_change_64 hl (by decide) rfl (fun ls hl => ?_)
      refine lv_aload_n hx hb dX6_change_66 rfl (lv_at hl 1 rfl) ?_
      refine lv_iload_n hx hb dX6_change_67 rfl (lv_at hl 2 rfl) ?_
      refine lv_iload_n hx hb dX6_change_68 rfl (lv_at hl 3 rfl) ?_
      refine lv_iload_n hx hb dX6_change_69 rfl (lv_at hl 4 rfl) ?_
      refine lv_iload hx hb dX6_change_70 (lv_at hl 5 rfl) ?_
      refine lv_iload hx hb dX6_change_72 (lv_at hl 6 rfl) ?_
      obtain ⟨u9, hcl, hm⟩ := bnd hm
      refine kVW C X (kX6_put l g a p1 p2 p3 p4 p5 u6 u9 hcl) (cw_X6_change_X6_put_130 C) 0 (ci := 6) rfl rfl (As := [.int p1, .int p2, .int p3, .int p4, .int p5]) rfl hl (rest := []) rfl (Nat.le_of_ble_eq_true rfl) (st2 := []) rfl dX6_change_74 ⟨Nat.le_of_ble_eq_true rfl, Nat.le_of_ble_eq_true rfl⟩ (fun H locs X => ?_)
      clear hcl
      refine lv_aload_n hx hb dX6_change_77 rfl (lv_at hl 1 rfl) ?_
      refine lv_iload_n hx hb dX6_change_78 rfl (lv_at hl 2 rfl) ?_
      obtain ⟨u10, hcl, hm⟩ := bnd hm
      refine kVW C X (kX6_keepAll l g a p1 u9 u10 hcl) (cw_X6_change_X6_keepAll_120 C) 0 (ci := 6) rfl rfl (As := [.int p1]) rfl hl (rest := []) rfl (Nat.le_of_ble_eq_true rfl) (st2 := []) rfl dX6_change_79 ⟨Nat.le_of_ble_eq_true rfl, Nat.le_of_ble_eq_true rfl⟩ (fun H locs X => ?_)
      clear hcl
      refine lv_iload hx hb dX6_change_82 (lv_at hl 0 rfl) ?_
      cases sm hm
      exact kiret C X dX6_change_84
    · have hm := ifn hc hm
      refine lv_iconst (v := 0) hx hb dX6_change_40 (by decide) ?_
      cases sm hm
      exact kiret C X dX6_change_41
  clear hm
  have hm := hE
  clear hE
  refine lv_if_ne (tgt := 14) hx hb dX6_change_7 (by decide) (fun hc => ?_) (fun hc => ?_)
  · have hm := ifn hc hm
    refine lv_iload_n hx hb dX6_change_14 rfl (lv_at hl 3 rfl) ?_
    refine lv_iload hx hb dX6_change_15 (lv_at hl 4 rfl) ?_
    refine lv_iload hx hb dX6_change_17 (lv_at hl 5 rfl) ?_
    obtain ⟨r4, hcl, hm⟩ := bnd hm
    refine kS0 C X (kX6_isNumbers l g p3 p4 p5 r4 hcl) (cw_X6_change_X6_isNumbers_144 C) (As := [.int p3, .int p4, .int p5]) rfl hl (rest := [.ref (a 0)]) rfl (Nat.le_of_ble_eq_true rfl) (st2 := [.int r4, .ref (a 0)]) rfl dX6_change_19 ⟨Nat.le_of_ble_eq_true rfl, Nat.le_of_ble_eq_true rfl⟩ (fun H locs X => ?_)
    clear hcl
    refine lv_if_eq (tgt := 29) hx hb dX6_change_22 (by decide) (fun hc => ?_) (fun hc => ?_)
    · have hm := ifp hc hm
      refine lv_iconst (v := 2) hx hb dX6_change_29 (by decide) ?_
      cases sm hm
      exact K _ _ _ X (lv_sub hl [0, 1, 2, 3, 4, 5] rfl)
    · have hm := ifn hc hm
      refine lv_iconst (v := 0) hx hb dX6_change_25 (by decide) ?_
      refine lv_goto (tgt := 30) hx hb dX6_change_26 (by decide) ?_
      cases sm hm
      exact K _ _ _ X (lv_sub hl [0, 1, 2, 3, 4, 5] rfl)
  · have hm := ifp hc hm
    refine lv_iconst (v := 1) hx hb dX6_change_10 (by decide) ?_
    refine lv_goto (tgt := 30) hx hb dX6_change_11 (by decide) ?_
    cases sm hm
    exact K _ _ _ X (lv_sub hl [0, 1, 2, 3, 4, 5] rfl)
-- X6 BrushStrokesModel.drop(II)V
abbrev rX6_drop : Room := { frames := 1, cells := 0, slots := 0, locals := 26 }
theorem fl_X6_drop_7 : (Cond.fieldLink RX6 7 "BrushStrokesModel" "z" "[I") ∈ wsX6_drop := by decide +kernel
theorem in_X6_drop_X6 : ∀ w ∈ u_ws RX6 TX6 16, w ∈ wsX6_drop := by decide +kernel
theorem cw_X6_drop_X6_of_65 {p : Program} {s : State} {m : MethodId} {args : Array Value} {meth : Method} {c : Code} {g : kG} {A : Nat → Prop} (C : CT g p s m args meth c RX6 cX6_drop 4 none wsX6_drop A) : CallW rX6_drop s args RX6 RX6 65 yX6_of cX6_of 4 (some .int) wsX6_of rX6_of 0 0 3 := cwV 3 C.2.2.2.2.2.1 gX6_drop_X6_of rfl rfl rfl (by decide +kernel) ⟨Nat.le_of_ble_eq_true rfl, Nat.le_of_ble_eq_true rfl⟩
theorem cw_X6_drop_X6_put_130 {p : Program} {s : State} {m : MethodId} {args : Array Value} {meth : Method} {c : Code} {g : kG} {A : Nat → Prop} (C : CT g p s m args meth c RX6 cX6_drop 4 none wsX6_drop A) : CallW rX6_drop s args RX6 RX6 130 yX6_put cX6_put 7 none wsX6_put rX6_put 0 0 5 := cwV 5 C.2.2.2.2.2.1 gX6_drop_X6_put rfl rfl rfl (by decide +kernel) ⟨Nat.le_of_ble_eq_true rfl, Nat.le_of_ble_eq_true rfl⟩
theorem cw_X6_drop_X6_points_47 {p : Program} {s : State} {m : MethodId} {args : Array Value} {meth : Method} {c : Code} {g : kG} {A : Nat → Prop} (C : CT g p s m args meth c RX6 cX6_drop 4 none wsX6_drop A) : CallW rX6_drop s args RX6 RX6 47 yX6_points cX6_points 2 (some .int) wsX6_points rX6_points 0 0 1 := cwV 1 C.2.2.2.2.2.1 gX6_drop_X6_points rfl rfl rfl (by decide +kernel) ⟨Nat.le_of_ble_eq_true rfl, Nat.le_of_ble_eq_true rfl⟩
noncomputable def bX6_drop_2 (c1 : Int32) : Int32 × MS → Option ((Int32 × MS) ⊕ (MS))
  | (x2, u3) => (fX6_points c1 u3).bind fun r5 => if (r5 - 1) ≤ x2 then (some (.inr u3)) else ((fX6_of c1 (x2 + 1) 0 u3).bind fun r6 => (fX6_of c1 (x2 + 1) 1 u3).bind fun r7 => (fX6_of c1 (x2 + 1) 2 u3).bind fun r8 => (fX6_put c1 x2 r6 r7 r8 u3).bind fun u9 => some (.inl (x2 + 1, u9)))
noncomputable def lX6_drop_2 (c1 : Int32) (x2 : Int32) (u3 : MS) : Option (MS) := lp (bX6_drop_2 c1) (x2, u3)
theorem lX6_drop_2_eq (c1 : Int32) (x2 : Int32) (u3 : MS) : lX6_drop_2 c1 x2 u3 = ((fX6_points c1 u3).bind fun r5 => if (r5 - 1) ≤ x2 then (some (.inr u3)) else ((fX6_of c1 (x2 + 1) 0 u3).bind fun r6 => (fX6_of c1 (x2 + 1) 1 u3).bind fun r7 => (fX6_of c1 (x2 + 1) 2 u3).bind fun r8 => (fX6_put c1 x2 r6 r7 r8 u3).bind fun u9 => some (.inl (x2 + 1, u9)))).bind fun r => Sum.elim (fun z => lX6_drop_2 c1 z.1 z.2) (fun r => some r) r := lp_eq (bX6_drop_2 c1) (x2, u3)
set_option maxRecDepth 100000 in
set_option maxHeartbeats 4000000 in
theorem tX6_drop_2 {p : Program} {l : Launch} {e : Env} {s : State} {m : MethodId} {args : Array Value} {below : List Frame} {meth : Method} {c : Code} {g : kG} {A : Nat → Prop} {Q : State → Prop} (a : Nat → Nat) (C : CT g p s m args meth c RX6 cX6_drop 4 none wsX6_drop A) (c1 : Int32) (u4 : MS) (kk : ∀ (H : Heap) (locs : List Loc) (ls : Array Slot), ST g A s H locs (wM g a u4) → lv_has ls 4 [(0, .ref (a 0)), (1, .int c1)] → W p l e rX6_drop s m args below meth c H locs 0 0 Q (F0 m 52 ls [])) : ∀ (n : Nat) (x2 : Int32) (u3 : MS), whl (bX6_drop_2 c1) n (x2, u3) = some u4 → ∀ (H : Heap) (locs : List Loc) (ls : Array Slot), ST g A s H locs (wM g a u3) → lv_has ls 4 [(0, .ref (a 0)), (1, .int c1), (3, .int x2)] → W p l e rX6_drop s m args below meth c H locs 0 0 Q (F0 m 2 ls []) := by
  have hx := C.1
  have hb := C.2.1
  intro n
  induction n with
  | zero =>
    intro x2 u3 hm
    cases hm
  | succ n ih =>
    intro x2 u3 hm H locs ls X hl
    rw [whl] at hm
    obtain ⟨q, hq, hm2⟩ := bnd hm
    clear hm
    have hm := hq
    clear hq
    rw [bX6_drop_2] at hm
    refine lv_iload_n hx hb dX6_drop_2 rfl (lv_at hl 2 rfl) ?_
    refine lv_aload_n hx hb dX6_drop_3 rfl (lv_at hl 0 rfl) ?_
    refine lv_iload_n hx hb dX6_drop_4 rfl (lv_at hl 1 rfl) ?_
    obtain ⟨r5, hcl, hm⟩ := bnd hm
    refine kVW C X (kX6_points l g a c1 u3 r5 hcl) (cw_X6_drop_X6_points_47 C) 0 (ci := 6) rfl rfl (As := [.int c1]) rfl hl (rest := [.int x2]) rfl (Nat.le_of_ble_eq_true rfl) (st2 := [.int r5, .int x2]) rfl dX6_drop_5 ⟨Nat.le_of_ble_eq_true rfl, Nat.le_of_ble_eq_true rfl⟩ (fun H locs X => ?_)
    clear hcl
    refine lv_iconst (v := 1) hx hb dX6_drop_8 (by decide) ?_
    refine lv_isub hx hb dX6_drop_9 ?_
    refine lv_icmp_ge (tgt := 52) hx hb dX6_drop_10 (by decide) (fun hc => ?_) (fun hc => ?_)
    · have hm := ifp hc hm
      cases sm hm
      cases sm hm2
      exact kk _ _ _ X (lv_sub hl [0, 1] rfl)
    · have hm := ifn hc hm
      refine lv_aload_n hx hb dX6_drop_13 rfl (lv_at hl 0 rfl) ?_
      refine lv_iload_n hx hb dX6_drop_14 rfl (lv_at hl 1 rfl) ?_
      refine lv_iload_n hx hb dX6_drop_15 rfl (lv_at hl 2 rfl) ?_
      refine lv_aload_n hx hb dX6_drop_16 rfl (lv_at hl 0 rfl) ?_
      refine lv_iload_n hx hb dX6_drop_17 rfl (lv_at hl 1 rfl) ?_
      refine lv_iload_n hx hb dX6_drop_18 rfl (lv_at hl 2 rfl) ?_
      refine lv_iconst (v := 1) hx hb dX6_drop_19 (by decide) ?_
      refine lv_iadd hx hb dX6_drop_20 ?_
      refine lv_iconst (v := 0) hx hb dX6_drop_21 (by decide) ?_
      obtain ⟨r6, hcl, hm⟩ := bnd hm
      refine kVW C X (kX6_of l g a c1 (x2 + 1) 0 u3 r6 hcl) (cw_X6_drop_X6_of_65 C) 0 (ci := 6) rfl rfl (As := [.int c1, .int (x2 + 1), .int 0]) rfl hl (rest := [.int x2, .int c1, .ref (a 0)]) rfl (Nat.le_of_ble_eq_true rfl) (st2 := [.int r6, .int x2, .int c1, .ref (a 0)]) rfl dX6_drop_22 ⟨Nat.le_of_ble_eq_true rfl, Nat.le_of_ble_eq_true rfl⟩ (fun H locs X => ?_)
      clear hcl
      refine lv_aload_n hx hb dX6_drop_25 rfl (lv_at hl 0 rfl) ?_
      refine lv_iload_n hx hb dX6_drop_26 rfl (lv_at hl 1 rfl) ?_
      refine lv_iload_n hx hb dX6_drop_27 rfl (lv_at hl 2 rfl) ?_
      refine lv_iconst (v := 1) hx hb dX6_drop_28 (by decide) ?_
      refine lv_iadd hx hb dX6_drop_29 ?_
      refine lv_iconst (v := 1) hx hb dX6_drop_30 (by decide) ?_
      obtain ⟨r7, hcl, hm⟩ := bnd hm
      refine kVW C X (kX6_of l g a c1 (x2 + 1) 1 u3 r7 hcl) (cw_X6_drop_X6_of_65 C) 0 (ci := 6) rfl rfl (As := [.int c1, .int (x2 + 1), .int 1]) rfl hl (rest := [.int r6, .int x2, .int c1, .ref (a 0)]) rfl (Nat.le_of_ble_eq_true rfl) (st2 := [.int r7, .int r6, .int x2, .int c1, .ref (a 0)]) rfl dX6_drop_31 ⟨Nat.le_of_ble_eq_true rfl, Nat.le_of_ble_eq_true rfl⟩ (fun H locs X => ?_)
      clear hcl
      refine lv_aload_n hx hb dX6_drop_34 rfl (lv_at hl 0 rfl) ?_
      refine lv_iload_n hx hb dX6_drop_35 rfl (lv_at hl 1 rfl) ?_
      refine lv_iload_n hx hb dX6_drop_36 rfl (lv_at hl 2 rfl) ?_
      refine lv_iconst (v := 1) hx hb dX6_drop_37 (by decide) ?_
      refine lv_iadd hx hb dX6_drop_38 ?_
      refine lv_iconst (v := 2) hx hb dX6_drop_39 (by decide) ?_
      obtain ⟨r8, hcl, hm⟩ := bnd hm
      refine kVW C X (kX6_of l g a c1 (x2 + 1) 2 u3 r8 hcl) (cw_X6_drop_X6_of_65 C) 0 (ci := 6) rfl rfl (As := [.int c1, .int (x2 + 1), .int 2]) rfl hl (rest := [.int r7, .int r6, .int x2, .int c1, .ref (a 0)]) rfl (Nat.le_of_ble_eq_true rfl) (st2 := [.int r8, .int r7, .int r6, .int x2, .int c1, .ref (a 0)]) rfl dX6_drop_40 ⟨Nat.le_of_ble_eq_true rfl, Nat.le_of_ble_eq_true rfl⟩ (fun H locs X => ?_)
      clear hcl
      obtain ⟨u9, hcl, hm⟩ := bnd hm
      refine kVW C X (kX6_put l g a c1 x2 r6 r7 r8 u3 u9 hcl) (cw_X6_drop_X6_put_130 C) 0 (ci := 6) rfl rfl (As := [.int c1, .int x2, .int r6, .int r7, .int r8]) rfl hl (rest := []) rfl (Nat.le_of_ble_eq_true rfl) (st2 := []) rfl dX6_drop_43 ⟨Nat.le_of_ble_eq_true rfl, Nat.le_of_ble_eq_true rfl⟩ (fun H locs X => ?_)
      clear hcl
      refine lv_iinc (v := x2 + 1) (lv' := [(3, .int (x2 + 1)), (0, .ref (a 0)), (1, .int c1)]) hx hb dX6_drop_46 hl (k := 2) rfl rfl (by decide) rfl (fun ls hl => ?_)
      refine lv_goto (tgt := 2) hx hb dX6_drop_49 (by decide) ?_
      cases sm hm
      exact ih _ _ hm2 _ _ _ X (lv_sub hl [1, 2, 0] rfl)
noncomputable def fX6_drop (p1 : Int32) (p2 : Int32) (u : MS) : Option (MS) := (lX6_drop_2 p1 p2 u).bind fun u10 => gd (inb (74 * p1) 303) (gd (inb (74 * p1) 303) (lt (M_s_z u10 (upd (M_z u10) (74 * p1).toNatClampNeg ((M_z u10 (74 * p1).toNatClampNeg) - 1))) fun u11 => some u11))
set_option maxRecDepth 100000 in
set_option maxHeartbeats 4000000 in
theorem kX6_drop (l : Launch) (g : kG) (a : Nat → Nat) (p1 : Int32) (p2 : Int32) (u : MS) (o1 : MS) (hm : fX6_drop p1 p2 u = some o1) : KM l yX6_drop wsX6_drop rX6_drop g [.ref (a 0), .int p1, .int p2] (wM g a u) none (wM g a o1) 0 0 := by
  refine KM.of (nL := 4) (by decide) rfl (Nat.le_of_ble_eq_true rfl) ?_
  intro p e s m args below meth c A ls C X hl
  have C : CT g p s m args meth c RX6 cX6_drop 4 none wsX6_drop A := C
  have hx := C.1
  have hb := C.2.1
  have hl : lv_has ls 4 [(0, .ref (a 0)), (1, .int p1), (2, .int p2)] := hl
  have hinX6 := in_X6_drop_X6
  have hf7 := C.2.2.2.2.2.1 _ fl_X6_drop_7
  rw [fX6_drop] at hm
  refine lv_iload_n hx hb dX6_drop_0 rfl (lv_at hl 2 rfl) ?_
  refine lv_istore_n (lv' := [(3, .int p2), (0, .ref (a 0)), (1, .int p1), (2, .int p2)]) hx hb dX6_drop_1 rfl hl (by decide) rfl (fun ls hl => ?_)
  obtain ⟨u10, hL, hm⟩ := bnd hm
  obtain ⟨nn, hn⟩ := lp_run hL
  refine tX6_drop_2 a C p1 u10 (fun H locs ls X hl => ?_) nn _ _ hn _ _ _ X (lv_sub hl [1, 2, 0] rfl)
  clear hL hn
  refine lv_aload_n hx hb dX6_drop_52 rfl (lv_at hl 0 rfl) ?_
  refine kget C X 0 (ci := 6) rfl rfl hinX6 1 (by decide) hf7 (v := .ref (a 1)) rfl dX6_drop_53 ?_
  refine lv_bipush (v := 74) hx hb dX6_drop_56 (by decide) ?_
  refine lv_iload_n hx hb dX6_drop_58 rfl (lv_at hl 1 rfl) ?_
  refine lv_imul hx hb dX6_drop_59 ?_
  refine lv_dup2_11 hx hb dX6_drop_60 rfl rfl ?_
  obtain ⟨hgi, hm⟩ := gd_t hm
  refine kiald C X 1 rfl hgi dX6_drop_61 ?_
  refine lv_iconst (v := 1) hx hb dX6_drop_62 (by decide) ?_
  refine lv_isub hx hb dX6_drop_63 ?_
  obtain ⟨hgi, hm⟩ := gd_t hm
  obtain ⟨u11, eu⟩ : ∃ z, z = M_s_z u10 (upd (M_z u10) (74 * p1).toNatClampNeg ((M_z u10 (74 * p1).toNatClampNeg) - 1)) := ⟨_, rfl⟩
  have hm := lt_t eu hm
  refine kiast C X 1 rfl hgi (w2 := wM g a u11) (by subst eu; rfl) dX6_drop_64 (fun H locs X => ?_)
  clear eu
  cases sm hm
  exact kvret C X dX6_drop_65
-- X6 BrushStrokesModel.remove(II)I
abbrev rX6_remove : Room := { frames := 3, cells := 0, slots := 0, locals := 65 }
theorem fl_X6_remove_35 : (Cond.fieldLink RX6 35 "BrushStrokesModel" "thrown" "I") ∈ wsX6_remove := by decide +kernel
theorem in_X6_remove_X6 : ∀ w ∈ u_ws RX6 TX6 16, w ∈ wsX6_remove := by decide +kernel
theorem cw_X6_remove_X6_points_47 {p : Program} {s : State} {m : MethodId} {args : Array Value} {meth : Method} {c : Code} {g : kG} {A : Nat → Prop} (C : CT g p s m args meth c RX6 cX6_remove 3 (some .int) wsX6_remove A) : CallW rX6_remove s args RX6 RX6 47 yX6_points cX6_points 2 (some .int) wsX6_points rX6_points 0 0 1 := cwV 1 C.2.2.2.2.2.1 gX6_remove_X6_points rfl rfl rfl (by decide +kernel) ⟨Nat.le_of_ble_eq_true rfl, Nat.le_of_ble_eq_true rfl⟩
theorem cw_X6_remove_X6_isPoint_147 {p : Program} {s : State} {m : MethodId} {args : Array Value} {meth : Method} {c : Code} {g : kG} {A : Nat → Prop} (C : CT g p s m args meth c RX6 cX6_remove 3 (some .int) wsX6_remove A) : CallW rX6_remove s args RX6 RX6 147 yX6_isPoint cX6_isPoint 3 (some .boolean) wsX6_isPoint rX6_isPoint 0 0 2 := cwV 2 C.2.2.2.2.2.1 gX6_remove_X6_isPoint rfl rfl rfl (by decide +kernel) ⟨Nat.le_of_ble_eq_true rfl, Nat.le_of_ble_eq_true rfl⟩
theorem cw_X6_remove_X6_record_62 {p : Program} {s : State} {m : MethodId} {args : Array Value} {meth : Method} {c : Code} {g : kG} {A : Nat → Prop} (C : CT g p s m args meth c RX6 cX6_remove 3 (some .int) wsX6_remove A) : CallW rX6_remove s args RX6 RX6 62 yX6_record cX6_record 2 none wsX6_record rX6_record 0 0 0 := cwV 0 C.2.2.2.2.2.1 gX6_remove_X6_record rfl rfl rfl (by decide +kernel) ⟨Nat.le_of_ble_eq_true rfl, Nat.le_of_ble_eq_true rfl⟩
theorem cw_X6_remove_X6_drop_150 {p : Program} {s : State} {m : MethodId} {args : Array Value} {meth : Method} {c : Code} {g : kG} {A : Nat → Prop} (C : CT g p s m args meth c RX6 cX6_remove 3 (some .int) wsX6_remove A) : CallW rX6_remove s args RX6 RX6 150 yX6_drop cX6_drop 4 none wsX6_drop rX6_drop 0 0 2 := cwV 2 C.2.2.2.2.2.1 gX6_remove_X6_drop rfl rfl rfl (by decide +kernel) ⟨Nat.le_of_ble_eq_true rfl, Nat.le_of_ble_eq_true rfl⟩
theorem cw_X6_remove_X6_keepAll_120 {p : Program} {s : State} {m : MethodId} {args : Array Value} {meth : Method} {c : Code} {g : kG} {A : Nat → Prop} (C : CT g p s m args meth c RX6 cX6_remove 3 (some .int) wsX6_remove A) : CallW rX6_remove s args RX6 RX6 120 yX6_keepAll cX6_keepAll 2 none wsX6_keepAll rX6_keepAll 0 0 1 := cwV 1 C.2.2.2.2.2.1 gX6_remove_X6_keepAll rfl rfl rfl (by decide +kernel) ⟨Nat.le_of_ble_eq_true rfl, Nat.le_of_ble_eq_true rfl⟩
noncomputable def fX6_remove (p1 : Int32) (p2 : Int32) (u : MS) : Option (Int32 × MS) := (fX6_isPoint p1 p2 u).bind fun r1 => ((if r1 = 0 then (some 1) else ((fX6_points p1 u).bind fun r4 => if r4 = 2 then (some 2) else (some 0))) : Option (Int32)).bind fun v3 => lt (M_s_thrown u v3) fun u5 => if (M_thrown u5) ≤ 0 then ((fX6_record u5).bind fun u6 => (fX6_drop p1 p2 u6).bind fun u7 => (fX6_keepAll p1 u7).bind fun u8 => (fX6_points p1 u8).bind fun r9 => some (r9, u8)) else (some (0, u5))
set_option maxRecDepth 100000 in
set_option maxHeartbeats 4000000 in
theorem kX6_remove (l : Launch) (g : kG) (a : Nat → Nat) (p1 : Int32) (p2 : Int32) (u : MS) (o1 : Int32) (o2 : MS) (hm : fX6_remove p1 p2 u = some (o1, o2)) : KM l yX6_remove wsX6_remove rX6_remove g [.ref (a 0), .int p1, .int p2] (wM g a u) (some (.int o1)) (wM g a o2) 0 0 := by
  refine KM.of (nL := 3) (by decide) rfl (Nat.le_of_ble_eq_true rfl) ?_
  intro p e s m args below meth c A ls C X hl
  have C : CT g p s m args meth c RX6 cX6_remove 3 (some .int) wsX6_remove A := C
  have hx := C.1
  have hb := C.2.1
  have hl : lv_has ls 3 [(0, .ref (a 0)), (1, .int p1), (2, .int p2)] := hl
  have hinX6 := in_X6_remove_X6
  have hf35 := C.2.2.2.2.2.1 _ fl_X6_remove_35
  rw [fX6_remove] at hm
  refine lv_aload_n hx hb dX6_remove_0 rfl (lv_at hl 0 rfl) ?_
  refine lv_aload_n hx hb dX6_remove_1 rfl (lv_at hl 0 rfl) ?_
  refine lv_iload_n hx hb dX6_remove_2 rfl (lv_at hl 1 rfl) ?_
  refine lv_iload_n hx hb dX6_remove_3 rfl (lv_at hl 2 rfl) ?_
  obtain ⟨r1, hcl, hm⟩ := bnd hm
  refine kVW C X (kX6_isPoint l g a p1 p2 u r1 hcl) (cw_X6_remove_X6_isPoint_147 C) 0 (ci := 6) rfl rfl (As := [.int p1, .int p2]) rfl hl (rest := [.ref (a 0)]) rfl (Nat.le_of_ble_eq_true rfl) (st2 := [.int r1, .ref (a 0)]) rfl dX6_remove_4 ⟨Nat.le_of_ble_eq_true rfl, Nat.le_of_ble_eq_true rfl⟩ (fun H locs X => ?_)
  clear hcl
  obtain ⟨v3, hE, hm⟩ := bnd hm
  have K : ∀ (H : Heap) (locs : List Loc) (ls : Array Slot), ST g A s H locs (wM g a u) → lv_has ls 3 [(0, .ref (a 0)), (1, .int p1), (2, .int p2)] → W p l e rX6_remove s m args below meth c H locs 0 0 (kEnd g below args s (some (.int o1)) (wM g a o2) A 0 0) (F0 m 28 ls [.int v3, .ref (a 0)]) := by
    intro H locs ls X hl
    clear hE
    obtain ⟨u5, eu⟩ : ∃ z, z = M_s_thrown u v3 := ⟨_, rfl⟩
    have hm := lt_t eu hm
    refine kput C X 0 (ci := 6) rfl rfl hinX6 tyX6_ok nmX6 0 (by decide) hf35 rfl (ty := .int) (v := .int v3) rfl rfl rfl (Nat.le_of_ble_eq_true rfl) (w2 := wM g a u5) (by subst eu; rfl) dX6_remove_28 (fun H locs X => ?_)
    clear eu
    refine lv_aload_n hx hb dX6_remove_31 rfl (lv_at hl 0 rfl) ?_
    refine kget C X 0 (ci := 6) rfl rfl hinX6 0 (by decide) hf35 (v := .int (M_thrown u5)) rfl dX6_remove_32 ?_
    refine lv_if_le (tgt := 40) hx hb dX6_remove_35 (by decide) (fun hc => ?_) (fun hc => ?_)
    · have hm := ifp hc hm
      refine lv_aload_n hx hb dX6_remove_40 rfl (lv_at hl 0 rfl) ?_
      obtain ⟨u6, hcl, hm⟩ := bnd hm
      refine kVW C X (kX6_record l g a u5 u6 hcl) (cw_X6_remove_X6_record_62 C) 0 (ci := 6) rfl rfl (As := []) rfl hl (rest := []) rfl (Nat.le_of_ble_eq_true rfl) (st2 := []) rfl dX6_remove_41 ⟨Nat.le_of_ble_eq_true rfl, Nat.le_of_ble_eq_true rfl⟩ (fun H locs X => ?_)
      clear hcl
      refine lv_aload_n hx hb dX6_remove_44 rfl (lv_at hl 0 rfl) ?_
      refine lv_iload_n hx hb dX6_remove_45 rfl (lv_at hl 1 rfl) ?_
      refine lv_iload_n hx hb dX6_remove_46 rfl (lv_at hl 2 rfl) ?_
      obtain ⟨u7, hcl, hm⟩ := bnd hm
      refine kVW C X (kX6_drop l g a p1 p2 u6 u7 hcl) (cw_X6_remove_X6_drop_150 C) 0 (ci := 6) rfl rfl (As := [.int p1, .int p2]) rfl hl (rest := []) rfl (Nat.le_of_ble_eq_true rfl) (st2 := []) rfl dX6_remove_47 ⟨Nat.le_of_ble_eq_true rfl, Nat.le_of_ble_eq_true rfl⟩ (fun H locs X => ?_)
      clear hcl
      refine lv_aload_n hx hb dX6_remove_50 rfl (lv_at hl 0 rfl) ?_
      refine lv_iload_n hx hb dX6_remove_51 rfl (lv_at hl 1 rfl) ?_
      obtain ⟨u8, hcl, hm⟩ := bnd hm
      refine kVW C X (kX6_keepAll l g a p1 u7 u8 hcl) (cw_X6_remove_X6_keepAll_120 C) 0 (ci := 6) rfl rfl (As := [.int p1]) rfl hl (rest := []) rfl (Nat.le_of_ble_eq_true rfl) (st2 := []) rfl dX6_remove_52 ⟨Nat.le_of_ble_eq_true rfl, Nat.le_of_ble_eq_true rfl⟩ (fun H locs X => ?_)
      clear hcl
      refine lv_aload_n hx hb dX6_remove_55 rfl (lv_at hl 0 rfl) ?_
      refine lv_iload_n hx hb dX6_remove_56 rfl (lv_at hl 1 rfl) ?_
      obtain ⟨r9, hcl, hm⟩ := bnd hm
      refine kVW C X (kX6_points l g a p1 u8 r9 hcl) (cw_X6_remove_X6_points_47 C) 0 (ci := 6) rfl rfl (As := [.int p1]) rfl hl (rest := []) rfl (Nat.le_of_ble_eq_true rfl) (st2 := [.int r9]) rfl dX6_remove_57 ⟨Nat.le_of_ble_eq_true rfl, Nat.le_of_ble_eq_true rfl⟩ (fun H locs X => ?_)
      clear hcl
      cases sm hm
      exact kiret C X dX6_remove_60
    · have hm := ifn hc hm
      refine lv_iconst (v := 0) hx hb dX6_remove_38 (by decide) ?_
      cases sm hm
      exact kiret C X dX6_remove_39
  clear hm
  have hm := hE
  clear hE
  refine lv_if_ne (tgt := 14) hx hb dX6_remove_7 (by decide) (fun hc => ?_) (fun hc => ?_)
  · have hm := ifn hc hm
    refine lv_aload_n hx hb dX6_remove_14 rfl (lv_at hl 0 rfl) ?_
    refine lv_iload_n hx hb dX6_remove_15 rfl (lv_at hl 1 rfl) ?_
    obtain ⟨r4, hcl, hm⟩ := bnd hm
    refine kVW C X (kX6_points l g a p1 u r4 hcl) (cw_X6_remove_X6_points_47 C) 0 (ci := 6) rfl rfl (As := [.int p1]) rfl hl (rest := [.ref (a 0)]) rfl (Nat.le_of_ble_eq_true rfl) (st2 := [.int r4, .ref (a 0)]) rfl dX6_remove_16 ⟨Nat.le_of_ble_eq_true rfl, Nat.le_of_ble_eq_true rfl⟩ (fun H locs X => ?_)
    clear hcl
    refine lv_iconst (v := 2) hx hb dX6_remove_19 (by decide) ?_
    refine lv_icmp_ne (tgt := 27) hx hb dX6_remove_20 (by decide) (fun hc => ?_) (fun hc => ?_)
    · have hm := ifn hc hm
      refine lv_iconst (v := 0) hx hb dX6_remove_27 (by decide) ?_
      cases sm hm
      exact K _ _ _ X (lv_sub hl [0, 1, 2] rfl)
    · have hm := ifp hc hm
      refine lv_iconst (v := 2) hx hb dX6_remove_23 (by decide) ?_
      refine lv_goto (tgt := 28) hx hb dX6_remove_24 (by decide) ?_
      cases sm hm
      exact K _ _ _ X (lv_sub hl [0, 1, 2] rfl)
  · have hm := ifp hc hm
    refine lv_iconst (v := 1) hx hb dX6_remove_10 (by decide) ?_
    refine lv_goto (tgt := 28) hx hb dX6_remove_11 (by decide) ?_
    cases sm hm
    exact K _ _ _ X (lv_sub hl [0, 1, 2] rfl)
-- X6 BrushStrokesModel.erase(I)I
abbrev rX6_erase : Room := { frames := 2, cells := 0, slots := 0, locals := 43 }
theorem fl_X6_erase_35 : (Cond.fieldLink RX6 35 "BrushStrokesModel" "thrown" "I") ∈ wsX6_erase := by decide +kernel
theorem fl_X6_erase_7 : (Cond.fieldLink RX6 7 "BrushStrokesModel" "z" "[I") ∈ wsX6_erase := by decide +kernel
theorem in_X6_erase_X6 : ∀ w ∈ u_ws RX6 TX6 16, w ∈ wsX6_erase := by decide +kernel
theorem cw_X6_erase_X6_record_62 {p : Program} {s : State} {m : MethodId} {args : Array Value} {meth : Method} {c : Code} {g : kG} {A : Nat → Prop} (C : CT g p s m args meth c RX6 cX6_erase 3 (some .int) wsX6_erase A) : CallW rX6_erase s args RX6 RX6 62 yX6_record cX6_record 2 none wsX6_record rX6_record 0 0 0 := cwV 0 C.2.2.2.2.2.1 gX6_erase_X6_record rfl rfl rfl (by decide +kernel) ⟨Nat.le_of_ble_eq_true rfl, Nat.le_of_ble_eq_true rfl⟩
theorem cw_X6_erase_X6_isStroke_43 {p : Program} {s : State} {m : MethodId} {args : Array Value} {meth : Method} {c : Code} {g : kG} {A : Nat → Prop} (C : CT g p s m args meth c RX6 cX6_erase 3 (some .int) wsX6_erase A) : CallW rX6_erase s args RX6 RX6 43 yX6_isStroke cX6_isStroke 2 (some .boolean) wsX6_isStroke rX6_isStroke 0 0 1 := cwV 1 C.2.2.2.2.2.1 gX6_erase_X6_isStroke rfl rfl rfl (by decide +kernel) ⟨Nat.le_of_ble_eq_true rfl, Nat.le_of_ble_eq_true rfl⟩
noncomputable def bX6_erase_47 : Int32 × MS → Option ((Int32 × MS) ⊕ (MS))
  | (x6, u7) => gd (inb 296 303) (if (74 * (M_z u7 (296 : Int32).toNatClampNeg)) ≤ x6 then (some (.inr u7)) else (gd (inb (x6 + 74) 303) (gd (inb x6 303) (lt (M_s_z u7 (upd (M_z u7) x6.toNatClampNeg (M_z u7 (x6 + 74).toNatClampNeg))) fun u9 => some (.inl (x6 + 1, u9))))))
noncomputable def lX6_erase_47 (x6 : Int32) (u7 : MS) : Option (MS) := lp bX6_erase_47 (x6, u7)
theorem lX6_erase_47_eq (x6 : Int32) (u7 : MS) : lX6_erase_47 x6 u7 = (gd (inb 296 303) (if (74 * (M_z u7 (296 : Int32).toNatClampNeg)) ≤ x6 then (some (.inr u7)) else (gd (inb (x6 + 74) 303) (gd (inb x6 303) (lt (M_s_z u7 (upd (M_z u7) x6.toNatClampNeg (M_z u7 (x6 + 74).toNatClampNeg))) fun u9 => some (.inl (x6 + 1, u9))))))).bind fun r => Sum.elim (fun z => lX6_erase_47 z.1 z.2) (fun r => some r) r := lp_eq bX6_erase_47 (x6, u7)
set_option maxRecDepth 100000 in
set_option maxHeartbeats 4000000 in
theorem tX6_erase_47 {p : Program} {l : Launch} {e : Env} {s : State} {m : MethodId} {args : Array Value} {below : List Frame} {meth : Method} {c : Code} {g : kG} {A : Nat → Prop} {Q : State → Prop} (a : Nat → Nat) (C : CT g p s m args meth c RX6 cX6_erase 3 (some .int) wsX6_erase A) (u8 : MS) (kk : ∀ (H : Heap) (locs : List Loc) (ls : Array Slot), ST g A s H locs (wM g a u8) → lv_has ls 3 [(0, .ref (a 0))] → W p l e rX6_erase s m args below meth c H locs 0 0 Q (F0 m 83 ls [])) : ∀ (n : Nat) (x6 : Int32) (u7 : MS), whl bX6_erase_47 n (x6, u7) = some u8 → ∀ (H : Heap) (locs : List Loc) (ls : Array Slot), ST g A s H locs (wM g a u7) → lv_has ls 3 [(0, .ref (a 0)), (2, .int x6)] → W p l e rX6_erase s m args below meth c H locs 0 0 Q (F0 m 47 ls []) := by
  have hx := C.1
  have hb := C.2.1
  have hinX6 := in_X6_erase_X6
  have hf7 := C.2.2.2.2.2.1 _ fl_X6_erase_7
  intro n
  induction n with
  | zero =>
    intro x6 u7 hm
    cases hm
  | succ n ih =>
    intro x6 u7 hm H locs ls X hl
    rw [whl] at hm
    obtain ⟨q, hq, hm2⟩ := bnd hm
    clear hm
    have hm := hq
    clear hq
    rw [bX6_erase_47] at hm
    refine lv_iload_n hx hb dX6_erase_47 rfl (lv_at hl 1 rfl) ?_
    refine lv_bipush (v := 74) hx hb dX6_erase_48 (by decide) ?_
    refine lv_aload_n hx hb dX6_erase_50 rfl (lv_at hl 0 rfl) ?_
    refine kget C X 0 (ci := 6) rfl rfl hinX6 1 (by decide) hf7 (v := .ref (a 1)) rfl dX6_erase_51 ?_
    refine lv_sipush (v := 296) hx hb dX6_erase_54 (by decide) ?_
    obtain ⟨hgi, hm⟩ := gd_t hm
    refine kiald C X 1 rfl hgi dX6_erase_57 ?_
    refine lv_imul hx hb dX6_erase_58 ?_
    refine lv_icmp_ge (tgt := 83) hx hb dX6_erase_59 (by decide) (fun hc => ?_) (fun hc => ?_)
    · have hm := ifp hc hm
      cases sm hm
      cases sm hm2
      exact kk _ _ _ X (lv_sub hl [0] rfl)
    · have hm := ifn hc hm
      refine lv_aload_n hx hb dX6_erase_62 rfl (lv_at hl 0 rfl) ?_
      refine kget C X 0 (ci := 6) rfl rfl hinX6 1 (by decide) hf7 (v := .ref (a 1)) rfl dX6_erase_63 ?_
      refine lv_iload_n hx hb dX6_erase_66 rfl (lv_at hl 1 rfl) ?_
      refine lv_aload_n hx hb dX6_erase_67 rfl (lv_at hl 0 rfl) ?_
      refine kget C X 0 (ci := 6) rfl rfl hinX6 1 (by decide) hf7 (v := .ref (a 1)) rfl dX6_erase_68 ?_
      refine lv_iload_n hx hb dX6_erase_71 rfl (lv_at hl 1 rfl) ?_
      refine lv_bipush (v := 74) hx hb dX6_erase_72 (by decide) ?_
      refine lv_iadd hx hb dX6_erase_74 ?_
      obtain ⟨hgi, hm⟩ := gd_t hm
      refine kiald C X 1 rfl hgi dX6_erase_75 ?_
      obtain ⟨hgi, hm⟩ := gd_t hm
      obtain ⟨u9, eu⟩ : ∃ z, z = M_s_z u7 (upd (M_z u7) x6.toNatClampNeg (M_z u7 (x6 + 74).toNatClampNeg)) := ⟨_, rfl⟩
      have hm := lt_t eu hm
      refine kiast C X 1 rfl hgi (w2 := wM g a u9) (by subst eu; rfl) dX6_erase_76 (fun H locs X => ?_)
      clear eu
      refine lv_iinc (v := x6 + 1) (lv' := [(2, .int (x6 + 1)), (0, .ref (a 0))]) hx hb dX6_erase_77 hl (k := 1) rfl rfl (by decide) rfl (fun ls hl => ?_)
      refine lv_goto (tgt := 47) hx hb dX6_erase_80 (by decide) ?_
      cases sm hm
      exact ih _ _ hm2 _ _ _ X (lv_sub hl [1, 0] rfl)
noncomputable def fX6_erase (p1 : Int32) (u : MS) : Option (Int32 × MS) := (fX6_isStroke p1 u).bind fun r1 => ((if r1 = 0 then (some 1) else (some 0)) : Option (Int32)).bind fun v2 => lt (M_s_thrown u v2) fun u3 => if (M_thrown u3) ≤ 0 then ((fX6_record u3).bind fun u4 => gd (inb 296 303) (gd (inb 296 303) (lt (M_s_z u4 (upd (M_z u4) (296 : Int32).toNatClampNeg ((M_z u4 (296 : Int32).toNatClampNeg) - 1))) fun u5 => (lX6_erase_47 (74 * p1) u5).bind fun u10 => gd (inb 296 303) (some (M_z u10 (296 : Int32).toNatClampNeg, u10))))) else (some (0, u3))
set_option maxRecDepth 100000 in
set_option maxHeartbeats 4000000 in
theorem kX6_erase (l : Launch) (g : kG) (a : Nat → Nat) (p1 : Int32) (u : MS) (o1 : Int32) (o2 : MS) (hm : fX6_erase p1 u = some (o1, o2)) : KM l yX6_erase wsX6_erase rX6_erase g [.ref (a 0), .int p1] (wM g a u) (some (.int o1)) (wM g a o2) 0 0 := by
  refine KM.of (nL := 3) (by decide) rfl (Nat.le_of_ble_eq_true rfl) ?_
  intro p e s m args below meth c A ls C X hl
  have C : CT g p s m args meth c RX6 cX6_erase 3 (some .int) wsX6_erase A := C
  have hx := C.1
  have hb := C.2.1
  have hl : lv_has ls 3 [(0, .ref (a 0)), (1, .int p1)] := hl
  have hinX6 := in_X6_erase_X6
  have hf7 := C.2.2.2.2.2.1 _ fl_X6_erase_7
  have hf35 := C.2.2.2.2.2.1 _ fl_X6_erase_35
  rw [fX6_erase] at hm
  refine lv_aload_n hx hb dX6_erase_0 rfl (lv_at hl 0 rfl) ?_
  refine lv_aload_n hx hb dX6_erase_1 rfl (lv_at hl 0 rfl) ?_
  refine lv_iload_n hx hb dX6_erase_2 rfl (lv_at hl 1 rfl) ?_
  obtain ⟨r1, hcl, hm⟩ := bnd hm
  refine kVW C X (kX6_isStroke l g a p1 u r1 hcl) (cw_X6_erase_X6_isStroke_43 C) 0 (ci := 6) rfl rfl (As := [.int p1]) rfl hl (rest := [.ref (a 0)]) rfl (Nat.le_of_ble_eq_true rfl) (st2 := [.int r1, .ref (a 0)]) rfl dX6_erase_3 ⟨Nat.le_of_ble_eq_true rfl, Nat.le_of_ble_eq_true rfl⟩ (fun H locs X => ?_)
  clear hcl
  obtain ⟨v2, hE, hm⟩ := bnd hm
  have K : ∀ (H : Heap) (locs : List Loc) (ls : Array Slot), ST g A s H locs (wM g a u) → lv_has ls 3 [(0, .ref (a 0)), (1, .int p1)] → W p l e rX6_erase s m args below meth c H locs 0 0 (kEnd g below args s (some (.int o1)) (wM g a o2) A 0 0) (F0 m 14 ls [.int v2, .ref (a 0)]) := by
    intro H locs ls X hl
    clear hE
    obtain ⟨u3, eu⟩ : ∃ z, z = M_s_thrown u v2 := ⟨_, rfl⟩
    have hm := lt_t eu hm
    refine kput C X 0 (ci := 6) rfl rfl hinX6 tyX6_ok nmX6 0 (by decide) hf35 rfl (ty := .int) (v := .int v2) rfl rfl rfl (Nat.le_of_ble_eq_true rfl) (w2 := wM g a u3) (by subst eu; rfl) dX6_erase_14 (fun H locs X => ?_)
    clear eu
    refine lv_aload_n hx hb dX6_erase_17 rfl (lv_at hl 0 rfl) ?_
    refine kget C X 0 (ci := 6) rfl rfl hinX6 0 (by decide) hf35 (v := .int (M_thrown u3)) rfl dX6_erase_18 ?_
    refine lv_if_le (tgt := 26) hx hb dX6_erase_21 (by decide) (fun hc => ?_) (fun hc => ?_)
    · have hm := ifp hc hm
      refine lv_aload_n hx hb dX6_erase_26 rfl (lv_at hl 0 rfl) ?_
      obtain ⟨u4, hcl, hm⟩ := bnd hm
      refine kVW C X (kX6_record l g a u3 u4 hcl) (cw_X6_erase_X6_record_62 C) 0 (ci := 6) rfl rfl (As := []) rfl hl (rest := []) rfl (Nat.le_of_ble_eq_true rfl) (st2 := []) rfl dX6_erase_27 ⟨Nat.le_of_ble_eq_true rfl, Nat.le_of_ble_eq_true rfl⟩ (fun H locs X => ?_)
      clear hcl
      refine lv_aload_n hx hb dX6_erase_30 rfl (lv_at hl 0 rfl) ?_
      refine kget C X 0 (ci := 6) rfl rfl hinX6 1 (by decide) hf7 (v := .ref (a 1)) rfl dX6_erase_31 ?_
      refine lv_sipush (v := 296) hx hb dX6_erase_34 (by decide) ?_
      refine lv_dup2_11 hx hb dX6_erase_37 rfl rfl ?_
      obtain ⟨hgi, hm⟩ := gd_t hm
      refine kiald C X 1 rfl hgi dX6_erase_38 ?_
      refine lv_iconst (v := 1) hx hb dX6_erase_39 (by decide) ?_
      refine lv_isub hx hb dX6_erase_40 ?_
      obtain ⟨hgi, hm⟩ := gd_t hm
      obtain ⟨u5, eu⟩ : ∃ z, z = M_s_z u4 (upd (M_z u4) (296 : Int32).toNatClampNeg ((M_z u4 (296 : Int32).toNatClampNeg) - 1)) := ⟨_, rfl⟩
      have hm := lt_t eu hm
      refine kiast C X 1 rfl hgi (w2 := wM g a u5) (by subst eu; rfl) dX6_erase_41 (fun H locs X => ?_)
      clear eu
      refine lv_bipush (v := 74) hx hb dX6_erase_42 (by decide) ?_
      refine lv_iload_n hx hb dX6_erase_44 rfl (lv_at hl 1 rfl) ?_
      refine lv_imul hx hb dX6_erase_45 ?_
      refine lv_istore_n (lv' := [(2, .int (74 * p1)), (0, .ref (a 0)), (1, .int p1)]) hx hb dX6_erase_46 rfl hl (by decide) rfl (fun ls hl => ?_)
      obtain ⟨u10, hL, hm⟩ := bnd hm
      obtain ⟨nn, hn⟩ := lp_run hL
      refine tX6_erase_47 a C  u10 (fun H locs ls X hl => ?_) nn _ _ hn _ _ _ X (lv_sub hl [1, 0] rfl)
      clear hL hn
      refine lv_aload_n hx hb dX6_erase_83 rfl (lv_at hl 0 rfl) ?_
      refine kget C X 0 (ci := 6) rfl rfl hinX6 1 (by decide) hf7 (v := .ref (a 1)) rfl dX6_erase_84 ?_
      refine lv_sipush (v := 296) hx hb dX6_erase_87 (by decide) ?_
      obtain ⟨hgi, hm⟩ := gd_t hm
      refine kiald C X 1 rfl hgi dX6_erase_90 ?_
      cases sm hm
      exact kiret C X dX6_erase_91
    · have hm := ifn hc hm
      refine lv_iconst (v := 0) hx hb dX6_erase_24 (by decide) ?_
      cases sm hm
      exact kiret C X dX6_erase_25
  clear hm
  have hm := hE
  clear hE
  refine lv_if_eq (tgt := 13) hx hb dX6_erase_6 (by decide) (fun hc => ?_) (fun hc => ?_)
  · have hm := ifp hc hm
    refine lv_iconst (v := 1) hx hb dX6_erase_13 (by decide) ?_
    cases sm hm
    exact K _ _ _ X (lv_sub hl [0, 1] rfl)
  · have hm := ifn hc hm
    refine lv_iconst (v := 0) hx hb dX6_erase_9 (by decide) ?_
    refine lv_goto (tgt := 14) hx hb dX6_erase_10 (by decide) ?_
    cases sm hm
    exact K _ _ _ X (lv_sub hl [0, 1] rfl)
-- X6 BrushStrokesModel.simplify(II)I
abbrev rX6_simplify : Room := { frames := 7, cells := 0, slots := 0, locals := 187 }
theorem fl_X6_simplify_35 : (Cond.fieldLink RX6 35 "BrushStrokesModel" "thrown" "I") ∈ wsX6_simplify := by decide +kernel
theorem fl_X6_simplify_7 : (Cond.fieldLink RX6 7 "BrushStrokesModel" "z" "[I") ∈ wsX6_simplify := by decide +kernel
theorem in_X6_simplify_X6 : ∀ w ∈ u_ws RX6 TX6 16, w ∈ wsX6_simplify := by decide +kernel
theorem cw_X6_simplify_X6_ones_157 {p : Program} {s : State} {m : MethodId} {args : Array Value} {meth : Method} {c : Code} {g : kG} {A : Nat → Prop} (C : CT g p s m args meth c RX6 cX6_simplify 4 (some .int) wsX6_simplify A) : CallB rX6_simplify s args RX6 157 yX6_ones cX6_ones 3 (some .int) wsX6_ones rX6_ones 0 0 1 ∧ (Cond.static yX6_ones).before args s = true := cwS 1 C.2.2.2.2.2.1 gX6_simplify_X6_ones rfl rfl rfl (by decide +kernel) ⟨Nat.le_of_ble_eq_true rfl, Nat.le_of_ble_eq_true rfl⟩
theorem cw_X6_simplify_X6_in_39 {p : Program} {s : State} {m : MethodId} {args : Array Value} {meth : Method} {c : Code} {g : kG} {A : Nat → Prop} (C : CT g p s m args meth c RX6 cX6_simplify 4 (some .int) wsX6_simplify A) : CallB rX6_simplify s args RX6 39 yX6_in cX6_in 3 (some .boolean) wsX6_in rX6_in 0 0 3 ∧ (Cond.static yX6_in).before args s = true := cwS 3 C.2.2.2.2.2.1 gX6_simplify_X6_in rfl rfl rfl (by decide +kernel) ⟨Nat.le_of_ble_eq_true rfl, Nat.le_of_ble_eq_true rfl⟩
theorem cw_X6_simplify_X6_isStroke_43 {p : Program} {s : State} {m : MethodId} {args : Array Value} {meth : Method} {c : Code} {g : kG} {A : Nat → Prop} (C : CT g p s m args meth c RX6 cX6_simplify 4 (some .int) wsX6_simplify A) : CallW rX6_simplify s args RX6 RX6 43 yX6_isStroke cX6_isStroke 2 (some .boolean) wsX6_isStroke rX6_isStroke 0 0 1 := cwV 1 C.2.2.2.2.2.1 gX6_simplify_X6_isStroke rfl rfl rfl (by decide +kernel) ⟨Nat.le_of_ble_eq_true rfl, Nat.le_of_ble_eq_true rfl⟩
theorem cw_X6_simplify_X6_record_62 {p : Program} {s : State} {m : MethodId} {args : Array Value} {meth : Method} {c : Code} {g : kG} {A : Nat → Prop} (C : CT g p s m args meth c RX6 cX6_simplify 4 (some .int) wsX6_simplify A) : CallW rX6_simplify s args RX6 RX6 62 yX6_record cX6_record 2 none wsX6_record rX6_record 0 0 0 := cwV 0 C.2.2.2.2.2.1 gX6_simplify_X6_record rfl rfl rfl (by decide +kernel) ⟨Nat.le_of_ble_eq_true rfl, Nat.le_of_ble_eq_true rfl⟩
theorem cw_X6_simplify_X6_simplified_154 {p : Program} {s : State} {m : MethodId} {args : Array Value} {meth : Method} {c : Code} {g : kG} {A : Nat → Prop} (C : CT g p s m args meth c RX6 cX6_simplify 4 (some .int) wsX6_simplify A) : CallW rX6_simplify s args RX6 RX6 154 yX6_simplified cX6_simplified 4 (some .int) wsX6_simplified rX6_simplified 0 0 3 := cwV 3 C.2.2.2.2.2.1 gX6_simplify_X6_simplified rfl rfl rfl (by decide +kernel) ⟨Nat.le_of_ble_eq_true rfl, Nat.le_of_ble_eq_true rfl⟩
theorem cw_X6_simplify_X6_points_47 {p : Program} {s : State} {m : MethodId} {args : Array Value} {meth : Method} {c : Code} {g : kG} {A : Nat → Prop} (C : CT g p s m args meth c RX6 cX6_simplify 4 (some .int) wsX6_simplify A) : CallW rX6_simplify s args RX6 RX6 47 yX6_points cX6_points 2 (some .int) wsX6_points rX6_points 0 0 1 := cwV 1 C.2.2.2.2.2.1 gX6_simplify_X6_points rfl rfl rfl (by decide +kernel) ⟨Nat.le_of_ble_eq_true rfl, Nat.le_of_ble_eq_true rfl⟩
noncomputable def fX6_simplify (p1 : Int32) (p2 : Int32) (u : MS) : Option (Int32 × MS) := (fX6_isStroke p1 u).bind fun r1 => ((if r1 = 0 then (some 1) else ((fX6_in p2 0 1).bind fun r4 => if r4 = 0 then (some 2) else (some 0))) : Option (Int32)).bind fun v3 => lt (M_s_thrown u v3) fun u5 => if (M_thrown u5) ≤ 0 then ((fX6_record u5).bind fun u6 => gd (inb 297 303) ((fX6_simplified p1 (M_z u6 (297 : Int32).toNatClampNeg) p2 u6).bind fun (r7, u8) => gd (inb ((74 * p1) + 1) 303) (lt (M_s_z u8 (upd (M_z u8) ((74 * p1) + 1).toNatClampNeg r7)) fun u9 => gd (inb 301 303) (gd (inb 301 303) (lt (M_s_z u9 (upd (M_z u9) (301 : Int32).toNatClampNeg ((M_z u9 (301 : Int32).toNatClampNeg) + 1))) fun u10 => gd (inb 302 303) ((fX6_points p1 u10).bind fun r11 => (fX6_ones r7).bind fun r12 => gd (inb 302 303) (lt (M_s_z u10 (upd (M_z u10) (302 : Int32).toNatClampNeg ((M_z u10 (302 : Int32).toNatClampNeg) + (r11 - r12)))) fun u13 => (fX6_ones r7).bind fun r14 => some (r14, u13)))))))) else (some (0, u5))
set_option maxRecDepth 100000 in
set_option maxHeartbeats 4000000 in
theorem kX6_simplify (l : Launch) (g : kG) (a : Nat → Nat) (p1 : Int32) (p2 : Int32) (u : MS) (o1 : Int32) (o2 : MS) (hm : fX6_simplify p1 p2 u = some (o1, o2)) : KM l yX6_simplify wsX6_simplify rX6_simplify g [.ref (a 0), .int p1, .int p2] (wM g a u) (some (.int o1)) (wM g a o2) 0 0 := by
  refine KM.of (nL := 4) (by decide) rfl (Nat.le_of_ble_eq_true rfl) ?_
  intro p e s m args below meth c A ls C X hl
  have C : CT g p s m args meth c RX6 cX6_simplify 4 (some .int) wsX6_simplify A := C
  have hx := C.1
  have hb := C.2.1
  have hl : lv_has ls 4 [(0, .ref (a 0)), (1, .int p1), (2, .int p2)] := hl
  have hinX6 := in_X6_simplify_X6
  have hf7 := C.2.2.2.2.2.1 _ fl_X6_simplify_7
  have hf35 := C.2.2.2.2.2.1 _ fl_X6_simplify_35
  rw [fX6_simplify] at hm
  refine lv_aload_n hx hb dX6_simplify_0 rfl (lv_at hl 0 rfl) ?_
  refine lv_aload_n hx hb dX6_simplify_1 rfl (lv_at hl 0 rfl) ?_
  refine lv_iload_n hx hb dX6_simplify_2 rfl (lv_at hl 1 rfl) ?_
  obtain ⟨r1, hcl, hm⟩ := bnd hm
  refine kVW C X (kX6_isStroke l g a p1 u r1 hcl) (cw_X6_simplify_X6_isStroke_43 C) 0 (ci := 6) rfl rfl (As := [.int p1]) rfl hl (rest := [.ref (a 0)]) rfl (Nat.le_of_ble_eq_true rfl) (st2 := [.int r1, .ref (a 0)]) rfl dX6_simplify_3 ⟨Nat.le_of_ble_eq_true rfl, Nat.le_of_ble_eq_true rfl⟩ (fun H locs X => ?_)
  clear hcl
  obtain ⟨v3, hE, hm⟩ := bnd hm
  have K : ∀ (H : Heap) (locs : List Loc) (ls : Array Slot), ST g A s H locs (wM g a u) → lv_has ls 4 [(0, .ref (a 0)), (1, .int p1), (2, .int p2)] → W p l e rX6_simplify s m args below meth c H locs 0 0 (kEnd g below args s (some (.int o1)) (wM g a o2) A 0 0) (F0 m 27 ls [.int v3, .ref (a 0)]) := by
    intro H locs ls X hl
    clear hE
    obtain ⟨u5, eu⟩ : ∃ z, z = M_s_thrown u v3 := ⟨_, rfl⟩
    have hm := lt_t eu hm
    refine kput C X 0 (ci := 6) rfl rfl hinX6 tyX6_ok nmX6 0 (by decide) hf35 rfl (ty := .int) (v := .int v3) rfl rfl rfl (Nat.le_of_ble_eq_true rfl) (w2 := wM g a u5) (by subst eu; rfl) dX6_simplify_27 (fun H locs X => ?_)
    clear eu
    refine lv_aload_n hx hb dX6_simplify_30 rfl (lv_at hl 0 rfl) ?_
    refine kget C X 0 (ci := 6) rfl rfl hinX6 0 (by decide) hf35 (v := .int (M_thrown u5)) rfl dX6_simplify_31 ?_
    refine lv_if_le (tgt := 39) hx hb dX6_simplify_34 (by decide) (fun hc => ?_) (fun hc => ?_)
    · have hm := ifp hc hm
      refine lv_aload_n hx hb dX6_simplify_39 rfl (lv_at hl 0 rfl) ?_
      obtain ⟨u6, hcl, hm⟩ := bnd hm
      refine kVW C X (kX6_record l g a u5 u6 hcl) (cw_X6_simplify_X6_record_62 C) 0 (ci := 6) rfl rfl (As := []) rfl hl (rest := []) rfl (Nat.le_of_ble_eq_true rfl) (st2 := []) rfl dX6_simplify_40 ⟨Nat.le_of_ble_eq_true rfl, Nat.le_of_ble_eq_true rfl⟩ (fun H locs X => ?_)
      clear hcl
      refine lv_aload_n hx hb dX6_simplify_43 rfl (lv_at hl 0 rfl) ?_
      refine lv_iload_n hx hb dX6_simplify_44 rfl (lv_at hl 1 rfl) ?_
      refine lv_aload_n hx hb dX6_simplify_45 rfl (lv_at hl 0 rfl) ?_
      refine kget C X 0 (ci := 6) rfl rfl hinX6 1 (by decide) hf7 (v := .ref (a 1)) rfl dX6_simplify_46 ?_
      refine lv_sipush (v := 297) hx hb dX6_simplify_49 (by decide) ?_
      obtain ⟨hgi, hm⟩ := gd_t hm
      refine kiald C X 1 rfl hgi dX6_simplify_52 ?_
      refine lv_iload_n hx hb dX6_simplify_53 rfl (lv_at hl 2 rfl) ?_
      obtain ⟨⟨r7, u8⟩, hcl, hm⟩ := bnd hm
      refine kVW C X (kX6_simplified l g a p1 (M_z u6 (297 : Int32).toNatClampNeg) p2 u6 r7 u8 hcl) (cw_X6_simplify_X6_simplified_154 C) 0 (ci := 6) rfl rfl (As := [.int p1, .int (M_z u6 (297 : Int32).toNatClampNeg), .int p2]) rfl hl (rest := []) rfl (Nat.le_of_ble_eq_true rfl) (st2 := [.int r7]) rfl dX6_simplify_54 ⟨Nat.le_of_ble_eq_true rfl, Nat.le_of_ble_eq_true rfl⟩ (fun H locs X => ?_)
      clear hcl
      refine lv_istore_n (lv' := [(3, .int r7), (0, .ref (a 0)), (1, .int p1), (2, .int p2)]) hx hb dX6_simplify_57 rfl hl (by decide) rfl (fun ls hl => ?_)
      refine lv_aload_n hx hb dX6_simplify_58 rfl (lv_at hl 1 rfl) ?_
      refine kget C X 0 (ci := 6) rfl rfl hinX6 1 (by decide) hf7 (v := .ref (a 1)) rfl dX6_simplify_59 ?_
      refine lv_bipush (v := 74) hx hb dX6_simplify_62 (by decide) ?_
      refine lv_iload_n hx hb dX6_simplify_64 rfl (lv_at hl 2 rfl) ?_
      refine lv_imul hx hb dX6_simplify_65 ?_
      refine lv_iconst (v := 1) hx hb dX6_simplify_66 (by decide) ?_
      refine lv_iadd hx hb dX6_simplify_67 ?_
      refine lv_iload_n hx hb dX6_simplify_68 rfl (lv_at hl 0 rfl) ?_
      obtain ⟨hgi, hm⟩ := gd_t hm
      obtain ⟨u9, eu⟩ : ∃ z, z = M_s_z u8 (upd (M_z u8) ((74 * p1) + 1).toNatClampNeg r7) := ⟨_, rfl⟩
      have hm := lt_t eu hm
      refine kiast C X 1 rfl hgi (w2 := wM g a u9) (by subst eu; rfl) dX6_simplify_69 (fun H locs X => ?_)
      clear eu
      refine lv_aload_n hx hb dX6_simplify_70 rfl (lv_at hl 1 rfl) ?_
      refine kget C X 0 (ci := 6) rfl rfl hinX6 1 (by decide) hf7 (v := .ref (a 1)) rfl dX6_simplify_71 ?_
      refine lv_sipush (v := 301) hx hb dX6_simplify_74 (by decide) ?_
      refine lv_dup2_11 hx hb dX6_simplify_77 rfl rfl ?_
      obtain ⟨hgi, hm⟩ := gd_t hm
      refine kiald C X 1 rfl hgi dX6_simplify_78 ?_
      refine lv_iconst (v := 1) hx hb dX6_simplify_79 (by decide) ?_
      refine lv_iadd hx hb dX6_simplify_80 ?_
      obtain ⟨hgi, hm⟩ := gd_t hm
      obtain ⟨u10, eu⟩ : ∃ z, z = M_s_z u9 (upd (M_z u9) (301 : Int32).toNatClampNeg ((M_z u9 (301 : Int32).toNatClampNeg) + 1)) := ⟨_, rfl⟩
      have hm := lt_t eu hm
      refine kiast C X 1 rfl hgi (w2 := wM g a u10) (by subst eu; rfl) dX6_simplify_81 (fun H locs X => ?_)
      clear eu
      refine lv_aload_n hx hb dX6_simplify_82 rfl (lv_at hl 1 rfl) ?_
      refine kget C X 0 (ci := 6) rfl rfl hinX6 1 (by decide) hf7 (v := .ref (a 1)) rfl dX6_simplify_83 ?_
      refine lv_sipush (v := 302) hx hb dX6_simplify_86 (by decide) ?_
      refine lv_dup2_11 hx hb dX6_simplify_89 rfl rfl ?_
      obtain ⟨hgi, hm⟩ := gd_t hm
      refine kiald C X 1 rfl hgi dX6_simplify_90 ?_
      refine lv_aload_n hx hb dX6_simplify_91 rfl (lv_at hl 1 rfl) ?_
      refine lv_iload_n hx hb dX6_simplify_92 rfl (lv_at hl 2 rfl) ?_
      obtain ⟨r11, hcl, hm⟩ := bnd hm
      refine kVW C X (kX6_points l g a p1 u10 r11 hcl) (cw_X6_simplify_X6_points_47 C) 0 (ci := 6) rfl rfl (As := [.int p1]) rfl hl (rest := [.int (M_z u10 (302 : Int32).toNatClampNeg), .int 302, .ref (a 1)]) rfl (Nat.le_of_ble_eq_true rfl) (st2 := [.int r11, .int (M_z u10 (302 : Int32).toNatClampNeg), .int 302, .ref (a 1)]) rfl dX6_simplify_93 ⟨Nat.le_of_ble_eq_true rfl, Nat.le_of_ble_eq_true rfl⟩ (fun H locs X => ?_)
      clear hcl
      refine lv_iload_n hx hb dX6_simplify_96 rfl (lv_at hl 0 rfl) ?_
      obtain ⟨r12, hcl, hm⟩ := bnd hm
      refine kS0 C X (kX6_ones l g r7 r12 hcl) (cw_X6_simplify_X6_ones_157 C) (As := [.int r7]) rfl hl (rest := [.int r11, .int (M_z u10 (302 : Int32).toNatClampNeg), .int 302, .ref (a 1)]) rfl (Nat.le_of_ble_eq_true rfl) (st2 := [.int r12, .int r11, .int (M_z u10 (302 : Int32).toNatClampNeg), .int 302, .ref (a 1)]) rfl dX6_simplify_97 ⟨Nat.le_of_ble_eq_true rfl, Nat.le_of_ble_eq_true rfl⟩ (fun H locs X => ?_)
      clear hcl
      refine lv_isub hx hb dX6_simplify_100 ?_
      refine lv_iadd hx hb dX6_simplify_101 ?_
      obtain ⟨hgi, hm⟩ := gd_t hm
      obtain ⟨u13, eu⟩ : ∃ z, z = M_s_z u10 (upd (M_z u10) (302 : Int32).toNatClampNeg ((M_z u10 (302 : Int32).toNatClampNeg) + (r11 - r12))) := ⟨_, rfl⟩
      have hm := lt_t eu hm
      refine kiast C X 1 rfl hgi (w2 := wM g a u13) (by subst eu; rfl) dX6_simplify_102 (fun H locs X => ?_)
      clear eu
      refine lv_iload_n hx hb dX6_simplify_103 rfl (lv_at hl 0 rfl) ?_
      obtain ⟨r14, hcl, hm⟩ := bnd hm
      refine kS0 C X (kX6_ones l g r7 r14 hcl) (cw_X6_simplify_X6_ones_157 C) (As := [.int r7]) rfl hl (rest := []) rfl (Nat.le_of_ble_eq_true rfl) (st2 := [.int r14]) rfl dX6_simplify_104 ⟨Nat.le_of_ble_eq_true rfl, Nat.le_of_ble_eq_true rfl⟩ (fun H locs X => ?_)
      clear hcl
      cases sm hm
      exact kiret C X dX6_simplify_107
    · have hm := ifn hc hm
      refine lv_iconst (v := 0) hx hb dX6_simplify_37 (by decide) ?_
      cases sm hm
      exact kiret C X dX6_simplify_38
  clear hm
  have hm := hE
  clear hE
  refine lv_if_ne (tgt := 13) hx hb dX6_simplify_6 (by decide) (fun hc => ?_) (fun hc => ?_)
  · have hm := ifn hc hm
    refine lv_iload_n hx hb dX6_simplify_13 rfl (lv_at hl 2 rfl) ?_
    refine lv_iconst (v := 0) hx hb dX6_simplify_14 (by decide) ?_
    refine lv_iconst (v := 1) hx hb dX6_simplify_15 (by decide) ?_
    obtain ⟨r4, hcl, hm⟩ := bnd hm
    refine kS0 C X (kX6_in l g p2 0 1 r4 hcl) (cw_X6_simplify_X6_in_39 C) (As := [.int p2, .int 0, .int 1]) rfl hl (rest := [.ref (a 0)]) rfl (Nat.le_of_ble_eq_true rfl) (st2 := [.int r4, .ref (a 0)]) rfl dX6_simplify_16 ⟨Nat.le_of_ble_eq_true rfl, Nat.le_of_ble_eq_true rfl⟩ (fun H locs X => ?_)
    clear hcl
    refine lv_if_eq (tgt := 26) hx hb dX6_simplify_19 (by decide) (fun hc => ?_) (fun hc => ?_)
    · have hm := ifp hc hm
      refine lv_iconst (v := 2) hx hb dX6_simplify_26 (by decide) ?_
      cases sm hm
      exact K _ _ _ X (lv_sub hl [0, 1, 2] rfl)
    · have hm := ifn hc hm
      refine lv_iconst (v := 0) hx hb dX6_simplify_22 (by decide) ?_
      refine lv_goto (tgt := 27) hx hb dX6_simplify_23 (by decide) ?_
      cases sm hm
      exact K _ _ _ X (lv_sub hl [0, 1, 2] rfl)
  · have hm := ifp hc hm
    refine lv_iconst (v := 1) hx hb dX6_simplify_9 (by decide) ?_
    refine lv_goto (tgt := 27) hx hb dX6_simplify_10 (by decide) ?_
    cases sm hm
    exact K _ _ _ X (lv_sub hl [0, 1, 2] rfl)
-- X6 BrushStrokesModel.bake(I)I
abbrev rX6_bake : Room := { frames := 3, cells := 0, slots := 0, locals := 63 }
theorem fl_X6_bake_35 : (Cond.fieldLink RX6 35 "BrushStrokesModel" "thrown" "I") ∈ wsX6_bake := by decide +kernel
theorem in_X6_bake_X6 : ∀ w ∈ u_ws RX6 TX6 16, w ∈ wsX6_bake := by decide +kernel
theorem cw_X6_bake_X6_record_62 {p : Program} {s : State} {m : MethodId} {args : Array Value} {meth : Method} {c : Code} {g : kG} {A : Nat → Prop} (C : CT g p s m args meth c RX6 cX6_bake 5 (some .int) wsX6_bake A) : CallW rX6_bake s args RX6 RX6 62 yX6_record cX6_record 2 none wsX6_record rX6_record 0 0 0 := cwV 0 C.2.2.2.2.2.1 gX6_bake_X6_record rfl rfl rfl (by decide +kernel) ⟨Nat.le_of_ble_eq_true rfl, Nat.le_of_ble_eq_true rfl⟩
theorem cw_X6_bake_X6_isStroke_43 {p : Program} {s : State} {m : MethodId} {args : Array Value} {meth : Method} {c : Code} {g : kG} {A : Nat → Prop} (C : CT g p s m args meth c RX6 cX6_bake 5 (some .int) wsX6_bake A) : CallW rX6_bake s args RX6 RX6 43 yX6_isStroke cX6_isStroke 2 (some .boolean) wsX6_isStroke rX6_isStroke 0 0 1 := cwV 1 C.2.2.2.2.2.1 gX6_bake_X6_isStroke rfl rfl rfl (by decide +kernel) ⟨Nat.le_of_ble_eq_true rfl, Nat.le_of_ble_eq_true rfl⟩
theorem cw_X6_bake_X6_keptOf_160 {p : Program} {s : State} {m : MethodId} {args : Array Value} {meth : Method} {c : Code} {g : kG} {A : Nat → Prop} (C : CT g p s m args meth c RX6 cX6_bake 5 (some .int) wsX6_bake A) : CallW rX6_bake s args RX6 RX6 160 yX6_keptOf cX6_keptOf 2 (some .int) wsX6_keptOf rX6_keptOf 0 0 1 := cwV 1 C.2.2.2.2.2.1 gX6_bake_X6_keptOf rfl rfl rfl (by decide +kernel) ⟨Nat.le_of_ble_eq_true rfl, Nat.le_of_ble_eq_true rfl⟩
theorem cw_X6_bake_X6_points_47 {p : Program} {s : State} {m : MethodId} {args : Array Value} {meth : Method} {c : Code} {g : kG} {A : Nat → Prop} (C : CT g p s m args meth c RX6 cX6_bake 5 (some .int) wsX6_bake A) : CallW rX6_bake s args RX6 RX6 47 yX6_points cX6_points 2 (some .int) wsX6_points rX6_points 0 0 1 := cwV 1 C.2.2.2.2.2.1 gX6_bake_X6_points rfl rfl rfl (by decide +kernel) ⟨Nat.le_of_ble_eq_true rfl, Nat.le_of_ble_eq_true rfl⟩
theorem cw_X6_bake_X6_ones_157 {p : Program} {s : State} {m : MethodId} {args : Array Value} {meth : Method} {c : Code} {g : kG} {A : Nat → Prop} (C : CT g p s m args meth c RX6 cX6_bake 5 (some .int) wsX6_bake A) : CallB rX6_bake s args RX6 157 yX6_ones cX6_ones 3 (some .int) wsX6_ones rX6_ones 0 0 1 ∧ (Cond.static yX6_ones).before args s = true := cwS 1 C.2.2.2.2.2.1 gX6_bake_X6_ones rfl rfl rfl (by decide +kernel) ⟨Nat.le_of_ble_eq_true rfl, Nat.le_of_ble_eq_true rfl⟩
theorem cw_X6_bake_X6_has_54 {p : Program} {s : State} {m : MethodId} {args : Array Value} {meth : Method} {c : Code} {g : kG} {A : Nat → Prop} (C : CT g p s m args meth c RX6 cX6_bake 5 (some .int) wsX6_bake A) : CallB rX6_bake s args RX6 54 yX6_has cX6_has 2 (some .boolean) wsX6_has rX6_has 0 0 2 ∧ (Cond.static yX6_has).before args s = true := cwS 2 C.2.2.2.2.2.1 gX6_bake_X6_has rfl rfl rfl (by decide +kernel) ⟨Nat.le_of_ble_eq_true rfl, Nat.le_of_ble_eq_true rfl⟩
theorem cw_X6_bake_X6_drop_150 {p : Program} {s : State} {m : MethodId} {args : Array Value} {meth : Method} {c : Code} {g : kG} {A : Nat → Prop} (C : CT g p s m args meth c RX6 cX6_bake 5 (some .int) wsX6_bake A) : CallW rX6_bake s args RX6 RX6 150 yX6_drop cX6_drop 4 none wsX6_drop rX6_drop 0 0 2 := cwV 2 C.2.2.2.2.2.1 gX6_bake_X6_drop rfl rfl rfl (by decide +kernel) ⟨Nat.le_of_ble_eq_true rfl, Nat.le_of_ble_eq_true rfl⟩
theorem cw_X6_bake_X6_keepAll_120 {p : Program} {s : State} {m : MethodId} {args : Array Value} {meth : Method} {c : Code} {g : kG} {A : Nat → Prop} (C : CT g p s m args meth c RX6 cX6_bake 5 (some .int) wsX6_bake A) : CallW rX6_bake s args RX6 RX6 120 yX6_keepAll cX6_keepAll 2 none wsX6_keepAll rX6_keepAll 0 0 1 := cwV 1 C.2.2.2.2.2.1 gX6_bake_X6_keepAll rfl rfl rfl (by decide +kernel) ⟨Nat.le_of_ble_eq_true rfl, Nat.le_of_ble_eq_true rfl⟩
noncomputable def bX6_bake_56 (c9 : Int32) (c10 : Int32) : Int32 × MS → Option ((Int32 × MS) ⊕ (MS))
  | (x12, u13) => if x12 < 0 then (some (.inr u13)) else ((fX6_has c10 x12).bind fun r15 => ((if r15 = 0 then ((fX6_drop c9 x12 u13).bind fun u18 => some u18) else (some u13)) : Option (MS)).bind fun u17 => some (.inl (x12 + (-1), u17)))
noncomputable def lX6_bake_56 (c9 : Int32) (c10 : Int32) (x12 : Int32) (u13 : MS) : Option (MS) := lp (bX6_bake_56 c9 c10) (x12, u13)
theorem lX6_bake_56_eq (c9 : Int32) (c10 : Int32) (x12 : Int32) (u13 : MS) : lX6_bake_56 c9 c10 x12 u13 = (if x12 < 0 then (some (.inr u13)) else ((fX6_has c10 x12).bind fun r15 => ((if r15 = 0 then ((fX6_drop c9 x12 u13).bind fun u18 => some u18) else (some u13)) : Option (MS)).bind fun u17 => some (.inl (x12 + (-1), u17)))).bind fun r => Sum.elim (fun z => lX6_bake_56 c9 c10 z.1 z.2) (fun r => some r) r := lp_eq (bX6_bake_56 c9 c10) (x12, u13)
set_option maxRecDepth 100000 in
set_option maxHeartbeats 4000000 in
theorem tX6_bake_56 {p : Program} {l : Launch} {e : Env} {s : State} {m : MethodId} {args : Array Value} {below : List Frame} {meth : Method} {c : Code} {g : kG} {A : Nat → Prop} {Q : State → Prop} (a : Nat → Nat) (C : CT g p s m args meth c RX6 cX6_bake 5 (some .int) wsX6_bake A) (c9 : Int32) (c10 : Int32) (c11 : Int32) (u14 : MS) (kk : ∀ (H : Heap) (locs : List Loc) (ls : Array Slot), ST g A s H locs (wM g a u14) → lv_has ls 5 [(0, .ref (a 0)), (1, .int c9), (3, .int c11)] → W p l e rX6_bake s m args below meth c H locs 0 0 Q (F0 m 83 ls [])) : ∀ (n : Nat) (x12 : Int32) (u13 : MS), whl (bX6_bake_56 c9 c10) n (x12, u13) = some u14 → ∀ (H : Heap) (locs : List Loc) (ls : Array Slot), ST g A s H locs (wM g a u13) → lv_has ls 5 [(0, .ref (a 0)), (1, .int c9), (2, .int c10), (3, .int c11), (4, .int x12)] → W p l e rX6_bake s m args below meth c H locs 0 0 Q (F0 m 56 ls []) := by
  have hx := C.1
  have hb := C.2.1
  intro n
  induction n with
  | zero =>
    intro x12 u13 hm
    cases hm
  | succ n ih =>
    intro x12 u13 hm H locs ls X hl
    rw [whl] at hm
    obtain ⟨q, hq, hm2⟩ := bnd hm
    clear hm
    have hm := hq
    clear hq
    rw [bX6_bake_56] at hm
    refine lv_iload hx hb dX6_bake_56 (lv_at hl 4 rfl) ?_
    refine lv_if_lt (tgt := 83) hx hb dX6_bake_58 (by decide) (fun hc => ?_) (fun hc => ?_)
    · have hm := ifp hc hm
      cases sm hm
      cases sm hm2
      exact kk _ _ _ X (lv_sub hl [0, 1, 3] rfl)
    · have hm := ifn hc hm
      refine lv_iload_n hx hb dX6_bake_61 rfl (lv_at hl 2 rfl) ?_
      refine lv_iload hx hb dX6_bake_62 (lv_at hl 4 rfl) ?_
      obtain ⟨r15, hcl, hm⟩ := bnd hm
      refine kS0 C X (kX6_has l g c10 x12 r15 hcl) (cw_X6_bake_X6_has_54 C) (As := [.int c10, .int x12]) rfl hl (rest := []) rfl (Nat.le_of_ble_eq_true rfl) (st2 := [.int r15]) rfl dX6_bake_64 ⟨Nat.le_of_ble_eq_true rfl, Nat.le_of_ble_eq_true rfl⟩ (fun H locs X => ?_)
      clear hcl
      obtain ⟨u17, hE, hm⟩ := bnd hm
      have K : ∀ (H : Heap) (locs : List Loc) (ls : Array Slot), ST g A s H locs (wM g a u17) → lv_has ls 5 [(0, .ref (a 0)), (1, .int c9), (2, .int c10), (3, .int c11), (4, .int x12)] → W p l e rX6_bake s m args below meth c H locs 0 0 Q (F0 m 77 ls []) := by
        intro H locs ls X hl
        clear hE
        refine lv_iinc (v := x12 + (-1)) (lv' := [(4, .int (x12 + (-1))), (0, .ref (a 0)), (1, .int c9), (2, .int c10), (3, .int c11)]) hx hb dX6_bake_77 hl (k := 4) rfl rfl (by decide) rfl (fun ls hl => ?_)
        refine lv_goto (tgt := 56) hx hb dX6_bake_80 (by decide) ?_
        cases sm hm
        exact ih _ _ hm2 _ _ _ X (lv_sub hl [1, 2, 3, 4, 0] rfl)
      clear hm
      have hm := hE
      clear hE
      refine lv_if_ne (tgt := 77) hx hb dX6_bake_67 (by decide) (fun hc => ?_) (fun hc => ?_)
      · have hm := ifn hc hm
        cases sm hm
        exact K _ _ _ X (lv_sub hl [0, 1, 2, 3, 4] rfl)
      · have hm := ifp hc hm
        refine lv_aload_n hx hb dX6_bake_70 rfl (lv_at hl 0 rfl) ?_
        refine lv_iload_n hx hb dX6_bake_71 rfl (lv_at hl 1 rfl) ?_
        refine lv_iload hx hb dX6_bake_72 (lv_at hl 4 rfl) ?_
        obtain ⟨u18, hcl, hm⟩ := bnd hm
        refine kVW C X (kX6_drop l g a c9 x12 u13 u18 hcl) (cw_X6_bake_X6_drop_150 C) 0 (ci := 6) rfl rfl (As := [.int c9, .int x12]) rfl hl (rest := []) rfl (Nat.le_of_ble_eq_true rfl) (st2 := []) rfl dX6_bake_74 ⟨Nat.le_of_ble_eq_true rfl, Nat.le_of_ble_eq_true rfl⟩ (fun H locs X => ?_)
        clear hcl
        cases sm hm
        exact K _ _ _ X (lv_sub hl [0, 1, 2, 3, 4] rfl)
noncomputable def fX6_bake (p1 : Int32) (u : MS) : Option (Int32 × MS) := (fX6_isStroke p1 u).bind fun r1 => ((if r1 = 0 then (some 1) else (some 0)) : Option (Int32)).bind fun v2 => lt (M_s_thrown u v2) fun u3 => if (M_thrown u3) ≤ 0 then ((fX6_record u3).bind fun u4 => (fX6_keptOf p1 u4).bind fun r5 => (fX6_points p1 u4).bind fun r6 => (fX6_ones r5).bind fun r7 => (fX6_points p1 u4).bind fun r8 => (lX6_bake_56 p1 r5 (r8 - 1) u4).bind fun u19 => (fX6_keepAll p1 u19).bind fun u20 => some (r6 - r7, u20)) else (some (0, u3))
set_option maxRecDepth 100000 in
set_option maxHeartbeats 4000000 in
theorem kX6_bake (l : Launch) (g : kG) (a : Nat → Nat) (p1 : Int32) (u : MS) (o1 : Int32) (o2 : MS) (hm : fX6_bake p1 u = some (o1, o2)) : KM l yX6_bake wsX6_bake rX6_bake g [.ref (a 0), .int p1] (wM g a u) (some (.int o1)) (wM g a o2) 0 0 := by
  refine KM.of (nL := 5) (by decide) rfl (Nat.le_of_ble_eq_true rfl) ?_
  intro p e s m args below meth c A ls C X hl
  have C : CT g p s m args meth c RX6 cX6_bake 5 (some .int) wsX6_bake A := C
  have hx := C.1
  have hb := C.2.1
  have hl : lv_has ls 5 [(0, .ref (a 0)), (1, .int p1)] := hl
  have hinX6 := in_X6_bake_X6
  have hf35 := C.2.2.2.2.2.1 _ fl_X6_bake_35
  rw [fX6_bake] at hm
  refine lv_aload_n hx hb dX6_bake_0 rfl (lv_at hl 0 rfl) ?_
  refine lv_aload_n hx hb dX6_bake_1 rfl (lv_at hl 0 rfl) ?_
  refine lv_iload_n hx hb dX6_bake_2 rfl (lv_at hl 1 rfl) ?_
  obtain ⟨r1, hcl, hm⟩ := bnd hm
  refine kVW C X (kX6_isStroke l g a p1 u r1 hcl) (cw_X6_bake_X6_isStroke_43 C) 0 (ci := 6) rfl rfl (As := [.int p1]) rfl hl (rest := [.ref (a 0)]) rfl (Nat.le_of_ble_eq_true rfl) (st2 := [.int r1, .ref (a 0)]) rfl dX6_bake_3 ⟨Nat.le_of_ble_eq_true rfl, Nat.le_of_ble_eq_true rfl⟩ (fun H locs X => ?_)
  clear hcl
  obtain ⟨v2, hE, hm⟩ := bnd hm
  have K : ∀ (H : Heap) (locs : List Loc) (ls : Array Slot), ST g A s H locs (wM g a u) → lv_has ls 5 [(0, .ref (a 0)), (1, .int p1)] → W p l e rX6_bake s m args below meth c H locs 0 0 (kEnd g below args s (some (.int o1)) (wM g a o2) A 0 0) (F0 m 14 ls [.int v2, .ref (a 0)]) := by
    intro H locs ls X hl
    clear hE
    obtain ⟨u3, eu⟩ : ∃ z, z = M_s_thrown u v2 := ⟨_, rfl⟩
    have hm := lt_t eu hm
    refine kput C X 0 (ci := 6) rfl rfl hinX6 tyX6_ok nmX6 0 (by decide) hf35 rfl (ty := .int) (v := .int v2) rfl rfl rfl (Nat.le_of_ble_eq_true rfl) (w2 := wM g a u3) (by subst eu; rfl) dX6_bake_14 (fun H locs X => ?_)
    clear eu
    refine lv_aload_n hx hb dX6_bake_17 rfl (lv_at hl 0 rfl) ?_
    refine kget C X 0 (ci := 6) rfl rfl hinX6 0 (by decide) hf35 (v := .int (M_thrown u3)) rfl dX6_bake_18 ?_
    refine lv_if_le (tgt := 26) hx hb dX6_bake_21 (by decide) (fun hc => ?_) (fun hc => ?_)
    · have hm := ifp hc hm
      refine lv_aload_n hx hb dX6_bake_26 rfl (lv_at hl 0 rfl) ?_
      obtain ⟨u4, hcl, hm⟩ := bnd hm
      refine kVW C X (kX6_record l g a u3 u4 hcl) (cw_X6_bake_X6_record_62 C) 0 (ci := 6) rfl rfl (As := []) rfl hl (rest := []) rfl (Nat.le_of_ble_eq_true rfl) (st2 := []) rfl dX6_bake_27 ⟨Nat.le_of_ble_eq_true rfl, Nat.le_of_ble_eq_true rfl⟩ (fun H locs X => ?_)
      clear hcl
      refine lv_aload_n hx hb dX6_bake_30 rfl (lv_at hl 0 rfl) ?_
      refine lv_iload_n hx hb dX6_bake_31 rfl (lv_at hl 1 rfl) ?_
      obtain ⟨r5, hcl, hm⟩ := bnd hm
      refine kVW C X (kX6_keptOf l g a p1 u4 r5 hcl) (cw_X6_bake_X6_keptOf_160 C) 0 (ci := 6) rfl rfl (As := [.int p1]) rfl hl (rest := []) rfl (Nat.le_of_ble_eq_true rfl) (st2 := [.int r5]) rfl dX6_bake_32 ⟨Nat.le_of_ble_eq_true rfl, Nat.le_of_ble_eq_true rfl⟩ (fun H locs X => ?_)
      clear hcl
      refine lv_istore_n (lv' := [(2, .int r5), (0, .ref (a 0)), (1, .int p1)]) hx hb dX6_bake_35 rfl hl (by decide) rfl (fun ls hl => ?_)
      refine lv_aload_n hx hb dX6_bake_36 rfl (lv_at hl 1 rfl) ?_
      refine lv_iload_n hx hb dX6_bake_37 rfl (lv_at hl 2 rfl) ?_
      obtain ⟨r6, hcl, hm⟩ := bnd hm
      refine kVW C X (kX6_points l g a p1 u4 r6 hcl) (cw_X6_bake_X6_points_47 C) 0 (ci := 6) rfl rfl (As := [.int p1]) rfl hl (rest := []) rfl (Nat.le_of_ble_eq_true rfl) (st2 := [.int r6]) rfl dX6_bake_38 ⟨Nat.le_of_ble_eq_true rfl, Nat.le_of_ble_eq_true rfl⟩ (fun H locs X => ?_)
      clear hcl
      refine lv_iload_n hx hb dX6_bake_41 rfl (lv_at hl 0 rfl) ?_
      obtain ⟨r7, hcl, hm⟩ := bnd hm
      refine kS0 C X (kX6_ones l g r5 r7 hcl) (cw_X6_bake_X6_ones_157 C) (As := [.int r5]) rfl hl (rest := [.int r6]) rfl (Nat.le_of_ble_eq_true rfl) (st2 := [.int r7, .int r6]) rfl dX6_bake_42 ⟨Nat.le_of_ble_eq_true rfl, Nat.le_of_ble_eq_true rfl⟩ (fun H locs X => ?_)
      clear hcl
      refine lv_isub hx hb dX6_bake_45 ?_
      refine lv_istore_n (lv' := [(3, .int (r6 - r7)), (2, .int r5), (0, .ref (a 0)), (1, .int p1)]) hx hb dX6_bake_46 rfl hl (by decide) rfl (fun ls hl => ?_)
      refine lv_aload_n hx hb dX6_bake_47 rfl (lv_at hl 2 rfl) ?_
      refine lv_iload_n hx hb dX6_bake_48 rfl (lv_at hl 3 rfl) ?_
      obtain ⟨r8, hcl, hm⟩ := bnd hm
      refine kVW C X (kX6_points l g a p1 u4 r8 hcl) (cw_X6_bake_X6_points_47 C) 0 (ci := 6) rfl rfl (As := [.int p1]) rfl hl (rest := []) rfl (Nat.le_of_ble_eq_true rfl) (st2 := [.int r8]) rfl dX6_bake_49 ⟨Nat.le_of_ble_eq_true rfl, Nat.le_of_ble_eq_true rfl⟩ (fun H locs X => ?_)
      clear hcl
      refine lv_iconst (v := 1) hx hb dX6_bake_52 (by decide) ?_
      refine lv_isub hx hb dX6_bake_53 ?_
      refine lv_istore (lv' := [(4, .int (r8 - 1)), (3, .int (r6 - r7)), (2, .int r5), (0, .ref (a 0)), (1, .int p1)]) hx hb dX6_bake_54 hl (by decide) rfl (fun ls hl => ?_)
      obtain ⟨u19, hL, hm⟩ := bnd hm
      obtain ⟨nn, hn⟩ := lp_run hL
      refine tX6_bake_56 a C p1 r5 (r6 - r7) u19 (fun H locs ls X hl => ?_) nn _ _ hn _ _ _ X (lv_sub hl [3, 4, 2, 1, 0] rfl)
      clear hL hn
      refine lv_aload_n hx hb dX6_bake_83 rfl (lv_at hl 0 rfl) ?_
      refine lv_iload_n hx hb dX6_bake_84 rfl (lv_at hl 1 rfl) ?_
      obtain ⟨u20, hcl, hm⟩ := bnd hm
      refine kVW C X (kX6_keepAll l g a p1 u19 u20 hcl) (cw_X6_bake_X6_keepAll_120 C) 0 (ci := 6) rfl rfl (As := [.int p1]) rfl hl (rest := []) rfl (Nat.le_of_ble_eq_true rfl) (st2 := []) rfl dX6_bake_85 ⟨Nat.le_of_ble_eq_true rfl, Nat.le_of_ble_eq_true rfl⟩ (fun H locs X => ?_)
      clear hcl
      refine lv_iload_n hx hb dX6_bake_88 rfl (lv_at hl 2 rfl) ?_
      cases sm hm
      exact kiret C X dX6_bake_89
    · have hm := ifn hc hm
      refine lv_iconst (v := 0) hx hb dX6_bake_24 (by decide) ?_
      cases sm hm
      exact kiret C X dX6_bake_25
  clear hm
  have hm := hE
  clear hE
  refine lv_if_eq (tgt := 13) hx hb dX6_bake_6 (by decide) (fun hc => ?_) (fun hc => ?_)
  · have hm := ifp hc hm
    refine lv_iconst (v := 1) hx hb dX6_bake_13 (by decide) ?_
    cases sm hm
    exact K _ _ _ X (lv_sub hl [0, 1] rfl)
  · have hm := ifn hc hm
    refine lv_iconst (v := 0) hx hb dX6_bake_9 (by decide) ?_
    refine lv_goto (tgt := 14) hx hb dX6_bake_10 (by decide) ?_
    cases sm hm
    exact K _ _ _ X (lv_sub hl [0, 1] rfl)
-- X6 BrushStrokesModel.most(I)I
abbrev rX6_most : Room := { frames := 0, cells := 0, slots := 0, locals := 0 }
noncomputable def fX6_most (p1 : Int32) : Option (Int32) := ((if p1 = 0 then (some 50) else (if p1 = 2 then (some 20) else (some 100))) : Option (Int32)).bind fun v1 => some v1
set_option maxRecDepth 100000 in
set_option maxHeartbeats 4000000 in
theorem kX6_most (l : Launch) (g : kG) (p1 : Int32) (o1 : Int32) (hm : fX6_most p1 = some o1) : KM l yX6_most wsX6_most rX6_most g [.int p1] ([]) (some (.int o1)) ([]) 0 0 := by
  refine KM.of (nL := 1) (by decide) rfl (Nat.le_of_ble_eq_true rfl) ?_
  intro p e s m args below meth c A ls C X hl
  have C : CT g p s m args meth c RX6 cX6_most 1 (some .int) wsX6_most A := C
  have hx := C.1
  have hb := C.2.1
  have hl : lv_has ls 1 [(0, .int p1)] := hl
  rw [fX6_most] at hm
  refine lv_iload_n hx hb dX6_most_0 rfl (lv_at hl 0 rfl) ?_
  obtain ⟨v1, hE, hm⟩ := bnd hm
  have K : ∀ (H : Heap) (locs : List Loc) (ls : Array Slot), ST g A s H locs ([]) → lv_has ls 1 [] → W p l e rX6_most s m args below meth c H locs 0 0 (kEnd g below args s (some (.int o1)) ([]) A 0 0) (F0 m 21 ls [.int v1]) := by
    intro H locs ls X hl
    clear hE
    cases sm hm
    exact kiret C X dX6_most_21
  clear hm
  have hm := hE
  clear hE
  refine lv_if_ne (tgt := 9) hx hb dX6_most_1 (by decide) (fun hc => ?_) (fun hc => ?_)
  · have hm := ifn hc hm
    refine lv_iload_n hx hb dX6_most_9 rfl (lv_at hl 0 rfl) ?_
    refine lv_iconst (v := 2) hx hb dX6_most_10 (by decide) ?_
    refine lv_icmp_ne (tgt := 19) hx hb dX6_most_11 (by decide) (fun hc => ?_) (fun hc => ?_)
    · have hm := ifn hc hm
      refine lv_bipush (v := 100) hx hb dX6_most_19 (by decide) ?_
      cases sm hm
      exact K _ _ _ X (lv_sub hl [] rfl)
    · have hm := ifp hc hm
      refine lv_bipush (v := 20) hx hb dX6_most_14 (by decide) ?_
      refine lv_goto (tgt := 21) hx hb dX6_most_16 (by decide) ?_
      cases sm hm
      exact K _ _ _ X (lv_sub hl [] rfl)
  · have hm := ifp hc hm
    refine lv_bipush (v := 50) hx hb dX6_most_4 (by decide) ?_
    refine lv_goto (tgt := 21) hx hb dX6_most_6 (by decide) ?_
    cases sm hm
    exact K _ _ _ X (lv_sub hl [] rfl)
-- X6 BrushStrokesModel.set(II)I
abbrev rX6_set : Room := { frames := 1, cells := 0, slots := 0, locals := 22 }
theorem fl_X6_set_35 : (Cond.fieldLink RX6 35 "BrushStrokesModel" "thrown" "I") ∈ wsX6_set := by decide +kernel
theorem fl_X6_set_7 : (Cond.fieldLink RX6 7 "BrushStrokesModel" "z" "[I") ∈ wsX6_set := by decide +kernel
theorem in_X6_set_X6 : ∀ w ∈ u_ws RX6 TX6 16, w ∈ wsX6_set := by decide +kernel
theorem cw_X6_set_X6_most_163 {p : Program} {s : State} {m : MethodId} {args : Array Value} {meth : Method} {c : Code} {g : kG} {A : Nat → Prop} (C : CT g p s m args meth c RX6 cX6_set 4 (some .int) wsX6_set A) : CallB rX6_set s args RX6 163 yX6_most cX6_most 1 (some .int) wsX6_most rX6_most 0 0 1 ∧ (Cond.static yX6_most).before args s = true := cwS 1 C.2.2.2.2.2.1 gX6_set_X6_most rfl rfl rfl (by decide +kernel) ⟨Nat.le_of_ble_eq_true rfl, Nat.le_of_ble_eq_true rfl⟩
theorem cw_X6_set_X6_in_39 {p : Program} {s : State} {m : MethodId} {args : Array Value} {meth : Method} {c : Code} {g : kG} {A : Nat → Prop} (C : CT g p s m args meth c RX6 cX6_set 4 (some .int) wsX6_set A) : CallB rX6_set s args RX6 39 yX6_in cX6_in 3 (some .boolean) wsX6_in rX6_in 0 0 3 ∧ (Cond.static yX6_in).before args s = true := cwS 3 C.2.2.2.2.2.1 gX6_set_X6_in rfl rfl rfl (by decide +kernel) ⟨Nat.le_of_ble_eq_true rfl, Nat.le_of_ble_eq_true rfl⟩
theorem cw_X6_set_X6_record_62 {p : Program} {s : State} {m : MethodId} {args : Array Value} {meth : Method} {c : Code} {g : kG} {A : Nat → Prop} (C : CT g p s m args meth c RX6 cX6_set 4 (some .int) wsX6_set A) : CallW rX6_set s args RX6 RX6 62 yX6_record cX6_record 2 none wsX6_record rX6_record 0 0 0 := cwV 0 C.2.2.2.2.2.1 gX6_set_X6_record rfl rfl rfl (by decide +kernel) ⟨Nat.le_of_ble_eq_true rfl, Nat.le_of_ble_eq_true rfl⟩
noncomputable def fX6_set (p1 : Int32) (p2 : Int32) (u : MS) : Option (Int32 × MS) := (fX6_in p1 0 3).bind fun r1 => ((if r1 = 0 then (some 1) else (((if p1 = 2 then (some 1) else (some 0)) : Option (Int32)).bind fun v6 => (fX6_most p1).bind fun r7 => (fX6_in p2 v6 r7).bind fun r8 => if r8 = 0 then (some 2) else (some 0))) : Option (Int32)).bind fun v5 => lt (M_s_thrown u v5) fun u9 => if (M_thrown u9) ≤ 0 then ((fX6_record u9).bind fun u10 => gd (inb (297 + p1) 303) (gd (inb (297 + p1) 303) (lt (M_s_z u10 (upd (M_z u10) (297 + p1).toNatClampNeg p2)) fun u11 => some (M_z u10 (297 + p1).toNatClampNeg, u11)))) else (some (0, u9))
set_option maxRecDepth 100000 in
set_option maxHeartbeats 4000000 in
theorem kX6_set (l : Launch) (g : kG) (a : Nat → Nat) (p1 : Int32) (p2 : Int32) (u : MS) (o1 : Int32) (o2 : MS) (hm : fX6_set p1 p2 u = some (o1, o2)) : KM l yX6_set wsX6_set rX6_set g [.ref (a 0), .int p1, .int p2] (wM g a u) (some (.int o1)) (wM g a o2) 0 0 := by
  refine KM.of (nL := 4) (by decide) rfl (Nat.le_of_ble_eq_true rfl) ?_
  intro p e s m args below meth c A ls C X hl
  have C : CT g p s m args meth c RX6 cX6_set 4 (some .int) wsX6_set A := C
  have hx := C.1
  have hb := C.2.1
  have hl : lv_has ls 4 [(0, .ref (a 0)), (1, .int p1), (2, .int p2)] := hl
  have hinX6 := in_X6_set_X6
  have hf7 := C.2.2.2.2.2.1 _ fl_X6_set_7
  have hf35 := C.2.2.2.2.2.1 _ fl_X6_set_35
  rw [fX6_set] at hm
  refine lv_aload_n hx hb dX6_set_0 rfl (lv_at hl 0 rfl) ?_
  refine lv_iload_n hx hb dX6_set_1 rfl (lv_at hl 1 rfl) ?_
  refine lv_iconst (v := 0) hx hb dX6_set_2 (by decide) ?_
  refine lv_iconst (v := 3) hx hb dX6_set_3 (by decide) ?_
  obtain ⟨r1, hcl, hm⟩ := bnd hm
  refine kS0 C X (kX6_in l g p1 0 3 r1 hcl) (cw_X6_set_X6_in_39 C) (As := [.int p1, .int 0, .int 3]) rfl hl (rest := [.ref (a 0)]) rfl (Nat.le_of_ble_eq_true rfl) (st2 := [.int r1, .ref (a 0)]) rfl dX6_set_4 ⟨Nat.le_of_ble_eq_true rfl, Nat.le_of_ble_eq_true rfl⟩ (fun H locs X => ?_)
  clear hcl
  obtain ⟨v5, hE, hm⟩ := bnd hm
  have K : ∀ (H : Heap) (locs : List Loc) (ls : Array Slot), ST g A s H locs (wM g a u) → lv_has ls 4 [(0, .ref (a 0)), (1, .int p1), (2, .int p2)] → W p l e rX6_set s m args below meth c H locs 0 0 (kEnd g below args s (some (.int o1)) (wM g a o2) A 0 0) (F0 m 40 ls [.int v5, .ref (a 0)]) := by
    intro H locs ls X hl
    clear hE
    obtain ⟨u9, eu⟩ : ∃ z, z = M_s_thrown u v5 := ⟨_, rfl⟩
    have hm := lt_t eu hm
    refine kput C X 0 (ci := 6) rfl rfl hinX6 tyX6_ok nmX6 0 (by decide) hf35 rfl (ty := .int) (v := .int v5) rfl rfl rfl (Nat.le_of_ble_eq_true rfl) (w2 := wM g a u9) (by subst eu; rfl) dX6_set_40 (fun H locs X => ?_)
    clear eu
    refine lv_aload_n hx hb dX6_set_43 rfl (lv_at hl 0 rfl) ?_
    refine kget C X 0 (ci := 6) rfl rfl hinX6 0 (by decide) hf35 (v := .int (M_thrown u9)) rfl dX6_set_44 ?_
    refine lv_if_le (tgt := 52) hx hb dX6_set_47 (by decide) (fun hc => ?_) (fun hc => ?_)
    · have hm := ifp hc hm
      refine lv_aload_n hx hb dX6_set_52 rfl (lv_at hl 0 rfl) ?_
      obtain ⟨u10, hcl, hm⟩ := bnd hm
      refine kVW C X (kX6_record l g a u9 u10 hcl) (cw_X6_set_X6_record_62 C) 0 (ci := 6) rfl rfl (As := []) rfl hl (rest := []) rfl (Nat.le_of_ble_eq_true rfl) (st2 := []) rfl dX6_set_53 ⟨Nat.le_of_ble_eq_true rfl, Nat.le_of_ble_eq_true rfl⟩ (fun H locs X => ?_)
      clear hcl
      refine lv_aload_n hx hb dX6_set_56 rfl (lv_at hl 0 rfl) ?_
      refine kget C X 0 (ci := 6) rfl rfl hinX6 1 (by decide) hf7 (v := .ref (a 1)) rfl dX6_set_57 ?_
      refine lv_sipush (v := 297) hx hb dX6_set_60 (by decide) ?_
      refine lv_iload_n hx hb dX6_set_63 rfl (lv_at hl 1 rfl) ?_
      refine lv_iadd hx hb dX6_set_64 ?_
      obtain ⟨hgi, hm⟩ := gd_t hm
      refine kiald C X 1 rfl hgi dX6_set_65 ?_
      refine lv_istore_n (lv' := [(3, .int (M_z u10 (297 + p1).toNatClampNeg)), (0, .ref (a 0)), (1, .int p1), (2, .int p2)]) hx hb dX6_set_66 rfl hl (by decide) rfl (fun ls hl => ?_)
      refine lv_aload_n hx hb dX6_set_67 rfl (lv_at hl 1 rfl) ?_
      refine kget C X 0 (ci := 6) rfl rfl hinX6 1 (by decide) hf7 (v := .ref (a 1)) rfl dX6_set_68 ?_
      refine lv_sipush (v := 297) hx hb dX6_set_71 (by decide) ?_
      refine lv_iload_n hx hb dX6_set_74 rfl (lv_at hl 2 rfl) ?_
      refine lv_iadd hx hb dX6_set_75 ?_
      refine lv_iload_n hx hb dX6_set_76 rfl (lv_at hl 3 rfl) ?_
      obtain ⟨hgi, hm⟩ := gd_t hm
      obtain ⟨u11, eu⟩ : ∃ z, z = M_s_z u10 (upd (M_z u10) (297 + p1).toNatClampNeg p2) := ⟨_, rfl⟩
      have hm := lt_t eu hm
      refine kiast C X 1 rfl hgi (w2 := wM g a u11) (by subst eu; rfl) dX6_set_77 (fun H locs X => ?_)
      clear eu
      refine lv_iload_n hx hb dX6_set_78 rfl (lv_at hl 0 rfl) ?_
      cases sm hm
      exact kiret C X dX6_set_79
    · have hm := ifn hc hm
      refine lv_iconst (v := 0) hx hb dX6_set_50 (by decide) ?_
      cases sm hm
      exact kiret C X dX6_set_51
  clear hm
  have hm := hE
  clear hE
  refine lv_if_ne (tgt := 14) hx hb dX6_set_7 (by decide) (fun hc => ?_) (fun hc => ?_)
  · have hm := ifn hc hm
    refine lv_iload_n hx hb dX6_set_14 rfl (lv_at hl 2 rfl) ?_
    refine lv_iload_n hx hb dX6_set_15 rfl (lv_at hl 1 rfl) ?_
    refine lv_iconst (v := 2) hx hb dX6_set_16 (by decide) ?_
    obtain ⟨v6, hE, hm⟩ := bnd hm
    have K : ∀ (H : Heap) (locs : List Loc) (ls : Array Slot), ST g A s H locs (wM g a u) → lv_has ls 4 [(0, .ref (a 0)), (1, .int p1), (2, .int p2)] → W p l e rX6_set s m args below meth c H locs 0 0 (kEnd g below args s (some (.int o1)) (wM g a o2) A 0 0) (F0 m 25 ls [.int v6, .int p2, .ref (a 0)]) := by
      intro H locs ls X hl
      clear hE
      refine lv_iload_n hx hb dX6_set_25 rfl (lv_at hl 1 rfl) ?_
      obtain ⟨r7, hcl, hm⟩ := bnd hm
      refine kS0 C X (kX6_most l g p1 r7 hcl) (cw_X6_set_X6_most_163 C) (As := [.int p1]) rfl hl (rest := [.int v6, .int p2, .ref (a 0)]) rfl (Nat.le_of_ble_eq_true rfl) (st2 := [.int r7, .int v6, .int p2, .ref (a 0)]) rfl dX6_set_26 ⟨Nat.le_of_ble_eq_true rfl, Nat.le_of_ble_eq_true rfl⟩ (fun H locs X => ?_)
      clear hcl
      obtain ⟨r8, hcl, hm⟩ := bnd hm
      refine kS0 C X (kX6_in l g p2 v6 r7 r8 hcl) (cw_X6_set_X6_in_39 C) (As := [.int p2, .int v6, .int r7]) rfl hl (rest := [.ref (a 0)]) rfl (Nat.le_of_ble_eq_true rfl) (st2 := [.int r8, .ref (a 0)]) rfl dX6_set_29 ⟨Nat.le_of_ble_eq_true rfl, Nat.le_of_ble_eq_true rfl⟩ (fun H locs X => ?_)
      clear hcl
      refine lv_if_eq (tgt := 39) hx hb dX6_set_32 (by decide) (fun hc => ?_) (fun hc => ?_)
      · have hm := ifp hc hm
        refine lv_iconst (v := 2) hx hb dX6_set_39 (by decide) ?_
        cases sm hm
        exact K _ _ _ X (lv_sub hl [0, 1, 2] rfl)
      · have hm := ifn hc hm
        refine lv_iconst (v := 0) hx hb dX6_set_35 (by decide) ?_
        refine lv_goto (tgt := 40) hx hb dX6_set_36 (by decide) ?_
        cases sm hm
        exact K _ _ _ X (lv_sub hl [0, 1, 2] rfl)
    clear hm
    have hm := hE
    clear hE
    refine lv_icmp_ne (tgt := 24) hx hb dX6_set_17 (by decide) (fun hc => ?_) (fun hc => ?_)
    · have hm := ifn hc hm
      refine lv_iconst (v := 0) hx hb dX6_set_24 (by decide) ?_
      cases sm hm
      exact K _ _ _ X (lv_sub hl [0, 1, 2] rfl)
    · have hm := ifp hc hm
      refine lv_iconst (v := 1) hx hb dX6_set_20 (by decide) ?_
      refine lv_goto (tgt := 25) hx hb dX6_set_21 (by decide) ?_
      cases sm hm
      exact K _ _ _ X (lv_sub hl [0, 1, 2] rfl)
  · have hm := ifp hc hm
    refine lv_iconst (v := 1) hx hb dX6_set_10 (by decide) ?_
    refine lv_goto (tgt := 40) hx hb dX6_set_11 (by decide) ?_
    cases sm hm
    exact K _ _ _ X (lv_sub hl [0, 1, 2] rfl)
-- X6 BrushStrokesModel.append(I)I
abbrev rX6_append : Room := { frames := 1, cells := 0, slots := 0, locals := 22 }
theorem fl_X6_append_141 : (Cond.fieldLink RX6 141 "BrushStrokesModel" "length" "I") ∈ wsX6_append := by decide +kernel
theorem fl_X6_append_23 : (Cond.fieldLink RX6 23 "BrushStrokesModel" "text" "[I") ∈ wsX6_append := by decide +kernel
theorem fl_X6_append_35 : (Cond.fieldLink RX6 35 "BrushStrokesModel" "thrown" "I") ∈ wsX6_append := by decide +kernel
theorem in_X6_append_X6 : ∀ w ∈ u_ws RX6 TX6 16, w ∈ wsX6_append := by decide +kernel
theorem cw_X6_append_X6_in_39 {p : Program} {s : State} {m : MethodId} {args : Array Value} {meth : Method} {c : Code} {g : kG} {A : Nat → Prop} (C : CT g p s m args meth c RX6 cX6_append 2 (some .int) wsX6_append A) : CallB rX6_append s args RX6 39 yX6_in cX6_in 3 (some .boolean) wsX6_in rX6_in 0 0 3 ∧ (Cond.static yX6_in).before args s = true := cwS 3 C.2.2.2.2.2.1 gX6_append_X6_in rfl rfl rfl (by decide +kernel) ⟨Nat.le_of_ble_eq_true rfl, Nat.le_of_ble_eq_true rfl⟩
noncomputable def fX6_append (p1 : Int32) (u : MS) : Option (Int32 × MS) := (fX6_in p1 33 126).bind fun r1 => ((if r1 = 0 then (some 1) else (if (M_length u) = 70 then (some 2) else (some 0))) : Option (Int32)).bind fun v2 => lt (M_s_thrown u v2) fun u3 => if (M_thrown u3) ≤ 0 then (gd (inb (M_length u3) 70) (lt (M_s_text u3 (upd (M_text u3) (M_length u3).toNatClampNeg p1)) fun u4 => lt (M_s_length u4 ((M_length u4) + 1)) fun u5 => some (M_length u5, u5))) else (some (0, u3))
set_option maxRecDepth 100000 in
set_option maxHeartbeats 4000000 in
theorem kX6_append (l : Launch) (g : kG) (a : Nat → Nat) (p1 : Int32) (u : MS) (o1 : Int32) (o2 : MS) (hm : fX6_append p1 u = some (o1, o2)) : KM l yX6_append wsX6_append rX6_append g [.ref (a 0), .int p1] (wM g a u) (some (.int o1)) (wM g a o2) 0 0 := by
  refine KM.of (nL := 2) (by decide) rfl (Nat.le_of_ble_eq_true rfl) ?_
  intro p e s m args below meth c A ls C X hl
  have C : CT g p s m args meth c RX6 cX6_append 2 (some .int) wsX6_append A := C
  have hx := C.1
  have hb := C.2.1
  have hl : lv_has ls 2 [(0, .ref (a 0)), (1, .int p1)] := hl
  have hinX6 := in_X6_append_X6
  have hf23 := C.2.2.2.2.2.1 _ fl_X6_append_23
  have hf35 := C.2.2.2.2.2.1 _ fl_X6_append_35
  have hf141 := C.2.2.2.2.2.1 _ fl_X6_append_141
  rw [fX6_append] at hm
  refine lv_aload_n hx hb dX6_append_0 rfl (lv_at hl 0 rfl) ?_
  refine lv_iload_n hx hb dX6_append_1 rfl (lv_at hl 1 rfl) ?_
  refine lv_bipush (v := 33) hx hb dX6_append_2 (by decide) ?_
  refine lv_bipush (v := 126) hx hb dX6_append_4 (by decide) ?_
  obtain ⟨r1, hcl, hm⟩ := bnd hm
  refine kS0 C X (kX6_in l g p1 33 126 r1 hcl) (cw_X6_append_X6_in_39 C) (As := [.int p1, .int 33, .int 126]) rfl hl (rest := [.ref (a 0)]) rfl (Nat.le_of_ble_eq_true rfl) (st2 := [.int r1, .ref (a 0)]) rfl dX6_append_6 ⟨Nat.le_of_ble_eq_true rfl, Nat.le_of_ble_eq_true rfl⟩ (fun H locs X => ?_)
  clear hcl
  obtain ⟨v2, hE, hm⟩ := bnd hm
  have K : ∀ (H : Heap) (locs : List Loc) (ls : Array Slot), ST g A s H locs (wM g a u) → lv_has ls 2 [(0, .ref (a 0)), (1, .int p1)] → W p l e rX6_append s m args below meth c H locs 0 0 (kEnd g below args s (some (.int o1)) (wM g a o2) A 0 0) (F0 m 30 ls [.int v2, .ref (a 0)]) := by
    intro H locs ls X hl
    clear hE
    obtain ⟨u3, eu⟩ : ∃ z, z = M_s_thrown u v2 := ⟨_, rfl⟩
    have hm := lt_t eu hm
    refine kput C X 0 (ci := 6) rfl rfl hinX6 tyX6_ok nmX6 0 (by decide) hf35 rfl (ty := .int) (v := .int v2) rfl rfl rfl (Nat.le_of_ble_eq_true rfl) (w2 := wM g a u3) (by subst eu; rfl) dX6_append_30 (fun H locs X => ?_)
    clear eu
    refine lv_aload_n hx hb dX6_append_33 rfl (lv_at hl 0 rfl) ?_
    refine kget C X 0 (ci := 6) rfl rfl hinX6 0 (by decide) hf35 (v := .int (M_thrown u3)) rfl dX6_append_34 ?_
    refine lv_if_le (tgt := 42) hx hb dX6_append_37 (by decide) (fun hc => ?_) (fun hc => ?_)
    · have hm := ifp hc hm
      refine lv_aload_n hx hb dX6_append_42 rfl (lv_at hl 0 rfl) ?_
      refine kget C X 0 (ci := 6) rfl rfl hinX6 6 (by decide) hf23 (v := .ref (a 5)) rfl dX6_append_43 ?_
      refine lv_aload_n hx hb dX6_append_46 rfl (lv_at hl 0 rfl) ?_
      refine kget C X 0 (ci := 6) rfl rfl hinX6 7 (by decide) hf141 (v := .int (M_length u3)) rfl dX6_append_47 ?_
      refine lv_iload_n hx hb dX6_append_50 rfl (lv_at hl 1 rfl) ?_
      obtain ⟨hgi, hm⟩ := gd_t hm
      obtain ⟨u4, eu⟩ : ∃ z, z = M_s_text u3 (upd (M_text u3) (M_length u3).toNatClampNeg p1) := ⟨_, rfl⟩
      have hm := lt_t eu hm
      refine kiast C X 5 rfl hgi (w2 := wM g a u4) (by subst eu; rfl) dX6_append_51 (fun H locs X => ?_)
      clear eu
      refine lv_aload_n hx hb dX6_append_52 rfl (lv_at hl 0 rfl) ?_
      refine lv_dup hx hb dX6_append_53 rfl ?_
      refine kget C X 0 (ci := 6) rfl rfl hinX6 7 (by decide) hf141 (v := .int (M_length u4)) rfl dX6_append_54 ?_
      refine lv_iconst (v := 1) hx hb dX6_append_57 (by decide) ?_
      refine lv_iadd hx hb dX6_append_58 ?_
      obtain ⟨u5, eu⟩ : ∃ z, z = M_s_length u4 ((M_length u4) + 1) := ⟨_, rfl⟩
      have hm := lt_t eu hm
      refine kput C X 0 (ci := 6) rfl rfl hinX6 tyX6_ok nmX6 7 (by decide) hf141 rfl (ty := .int) (v := .int ((M_length u4) + 1)) rfl rfl rfl (Nat.le_of_ble_eq_true rfl) (w2 := wM g a u5) (by subst eu; rfl) dX6_append_59 (fun H locs X => ?_)
      clear eu
      refine lv_aload_n hx hb dX6_append_62 rfl (lv_at hl 0 rfl) ?_
      refine kget C X 0 (ci := 6) rfl rfl hinX6 7 (by decide) hf141 (v := .int (M_length u5)) rfl dX6_append_63 ?_
      cases sm hm
      exact kiret C X dX6_append_66
    · have hm := ifn hc hm
      refine lv_iconst (v := 0) hx hb dX6_append_40 (by decide) ?_
      cases sm hm
      exact kiret C X dX6_append_41
  clear hm
  have hm := hE
  clear hE
  refine lv_if_ne (tgt := 16) hx hb dX6_append_9 (by decide) (fun hc => ?_) (fun hc => ?_)
  · have hm := ifn hc hm
    refine lv_aload_n hx hb dX6_append_16 rfl (lv_at hl 0 rfl) ?_
    refine kget C X 0 (ci := 6) rfl rfl hinX6 7 (by decide) hf141 (v := .int (M_length u)) rfl dX6_append_17 ?_
    refine lv_bipush (v := 70) hx hb dX6_append_20 (by decide) ?_
    refine lv_icmp_ne (tgt := 29) hx hb dX6_append_22 (by decide) (fun hc => ?_) (fun hc => ?_)
    · have hm := ifn hc hm
      refine lv_iconst (v := 0) hx hb dX6_append_29 (by decide) ?_
      cases sm hm
      exact K _ _ _ X (lv_sub hl [0, 1] rfl)
    · have hm := ifp hc hm
      refine lv_iconst (v := 2) hx hb dX6_append_25 (by decide) ?_
      refine lv_goto (tgt := 30) hx hb dX6_append_26 (by decide) ?_
      cases sm hm
      exact K _ _ _ X (lv_sub hl [0, 1] rfl)
  · have hm := ifp hc hm
    refine lv_iconst (v := 1) hx hb dX6_append_12 (by decide) ?_
    refine lv_goto (tgt := 30) hx hb dX6_append_13 (by decide) ?_
    cases sm hm
    exact K _ _ _ X (lv_sub hl [0, 1] rfl)
-- X6 BrushStrokesModel.clearBuffer()I
abbrev rX6_clearBuffer : Room := { frames := 0, cells := 0, slots := 0, locals := 0 }
theorem fl_X6_clearBuffer_141 : (Cond.fieldLink RX6 141 "BrushStrokesModel" "length" "I") ∈ wsX6_clearBuffer := by decide +kernel
theorem fl_X6_clearBuffer_35 : (Cond.fieldLink RX6 35 "BrushStrokesModel" "thrown" "I") ∈ wsX6_clearBuffer := by decide +kernel
theorem in_X6_clearBuffer_X6 : ∀ w ∈ u_ws RX6 TX6 16, w ∈ wsX6_clearBuffer := by decide +kernel
noncomputable def fX6_clearBuffer (u : MS) : Option (Int32 × MS) := lt (M_s_thrown u 0) fun u1 => lt (M_s_length u1 0) fun u2 => some (M_length u1, u2)
set_option maxRecDepth 100000 in
set_option maxHeartbeats 4000000 in
theorem kX6_clearBuffer (l : Launch) (g : kG) (a : Nat → Nat) (u : MS) (o1 : Int32) (o2 : MS) (hm : fX6_clearBuffer u = some (o1, o2)) : KM l yX6_clearBuffer wsX6_clearBuffer rX6_clearBuffer g [.ref (a 0)] (wM g a u) (some (.int o1)) (wM g a o2) 0 0 := by
  refine KM.of (nL := 2) (by decide) rfl (Nat.le_of_ble_eq_true rfl) ?_
  intro p e s m args below meth c A ls C X hl
  have C : CT g p s m args meth c RX6 cX6_clearBuffer 2 (some .int) wsX6_clearBuffer A := C
  have hx := C.1
  have hb := C.2.1
  have hl : lv_has ls 2 [(0, .ref (a 0))] := hl
  have hinX6 := in_X6_clearBuffer_X6
  have hf35 := C.2.2.2.2.2.1 _ fl_X6_clearBuffer_35
  have hf141 := C.2.2.2.2.2.1 _ fl_X6_clearBuffer_141
  rw [fX6_clearBuffer] at hm
  refine lv_aload_n hx hb dX6_clearBuffer_0 rfl (lv_at hl 0 rfl) ?_
  refine lv_iconst (v := 0) hx hb dX6_clearBuffer_1 (by decide) ?_
  obtain ⟨u1, eu⟩ : ∃ z, z = M_s_thrown u 0 := ⟨_, rfl⟩
  have hm := lt_t eu hm
  refine kput C X 0 (ci := 6) rfl rfl hinX6 tyX6_ok nmX6 0 (by decide) hf35 rfl (ty := .int) (v := .int 0) rfl rfl rfl (Nat.le_of_ble_eq_true rfl) (w2 := wM g a u1) (by subst eu; rfl) dX6_clearBuffer_2 (fun H locs X => ?_)
  clear eu
  refine lv_aload_n hx hb dX6_clearBuffer_5 rfl (lv_at hl 0 rfl) ?_
  refine kget C X 0 (ci := 6) rfl rfl hinX6 7 (by decide) hf141 (v := .int (M_length u1)) rfl dX6_clearBuffer_6 ?_
  refine lv_istore_n (lv' := [(1, .int (M_length u1)), (0, .ref (a 0))]) hx hb dX6_clearBuffer_9 rfl hl (by decide) rfl (fun ls hl => ?_)
  refine lv_aload_n hx hb dX6_clearBuffer_10 rfl (lv_at hl 1 rfl) ?_
  refine lv_iconst (v := 0) hx hb dX6_clearBuffer_11 (by decide) ?_
  obtain ⟨u2, eu⟩ : ∃ z, z = M_s_length u1 0 := ⟨_, rfl⟩
  have hm := lt_t eu hm
  refine kput C X 0 (ci := 6) rfl rfl hinX6 tyX6_ok nmX6 7 (by decide) hf141 rfl (ty := .int) (v := .int 0) rfl rfl rfl (Nat.le_of_ble_eq_true rfl) (w2 := wM g a u2) (by subst eu; rfl) dX6_clearBuffer_12 (fun H locs X => ?_)
  clear eu
  refine lv_iload_n hx hb dX6_clearBuffer_15 rfl (lv_at hl 0 rfl) ?_
  cases sm hm
  exact kiret C X dX6_clearBuffer_16
-- X6 BrushStrokesModel.firstError()I
abbrev rX6_firstError : Room := { frames := 4, cells := 0, slots := 0, locals := 88 }
theorem fl_X6_firstError_141 : (Cond.fieldLink RX6 141 "BrushStrokesModel" "length" "I") ∈ wsX6_firstError := by decide +kernel
theorem fl_X6_firstError_35 : (Cond.fieldLink RX6 35 "BrushStrokesModel" "thrown" "I") ∈ wsX6_firstError := by decide +kernel
theorem in_X6_firstError_X6 : ∀ w ∈ u_ws RX6 TX6 16, w ∈ wsX6_firstError := by decide +kernel
theorem cw_X6_firstError_X6_findError_134 {p : Program} {s : State} {m : MethodId} {args : Array Value} {meth : Method} {c : Code} {g : kG} {A : Nat → Prop} (C : CT g p s m args meth c RX6 cX6_firstError 2 (some .int) wsX6_firstError A) : CallW rX6_firstError s args RX6 RX6 134 yX6_findError cX6_findError 1 (some .int) wsX6_findError rX6_findError 0 0 0 := cwV 0 C.2.2.2.2.2.1 gX6_firstError_X6_findError rfl rfl rfl (by decide +kernel) ⟨Nat.le_of_ble_eq_true rfl, Nat.le_of_ble_eq_true rfl⟩
noncomputable def fX6_firstError (u : MS) : Option (Int32 × MS) := lt (M_s_thrown u 0) fun u1 => (fX6_findError u1).bind fun (r2, u3) => ((if 0 ≤ r2 then (some r2) else (some (M_length u3))) : Option (Int32)).bind fun v4 => some (v4, u3)
set_option maxRecDepth 100000 in
set_option maxHeartbeats 4000000 in
theorem kX6_firstError (l : Launch) (g : kG) (a : Nat → Nat) (u : MS) (o1 : Int32) (o2 : MS) (hm : fX6_firstError u = some (o1, o2)) : KM l yX6_firstError wsX6_firstError rX6_firstError g [.ref (a 0)] (wM g a u) (some (.int o1)) (wM g a o2) 0 0 := by
  refine KM.of (nL := 2) (by decide) rfl (Nat.le_of_ble_eq_true rfl) ?_
  intro p e s m args below meth c A ls C X hl
  have C : CT g p s m args meth c RX6 cX6_firstError 2 (some .int) wsX6_firstError A := C
  have hx := C.1
  have hb := C.2.1
  have hl : lv_has ls 2 [(0, .ref (a 0))] := hl
  have hinX6 := in_X6_firstError_X6
  have hf35 := C.2.2.2.2.2.1 _ fl_X6_firstError_35
  have hf141 := C.2.2.2.2.2.1 _ fl_X6_firstError_141
  rw [fX6_firstError] at hm
  refine lv_aload_n hx hb dX6_firstError_0 rfl (lv_at hl 0 rfl) ?_
  refine lv_iconst (v := 0) hx hb dX6_firstError_1 (by decide) ?_
  obtain ⟨u1, eu⟩ : ∃ z, z = M_s_thrown u 0 := ⟨_, rfl⟩
  have hm := lt_t eu hm
  refine kput C X 0 (ci := 6) rfl rfl hinX6 tyX6_ok nmX6 0 (by decide) hf35 rfl (ty := .int) (v := .int 0) rfl rfl rfl (Nat.le_of_ble_eq_true rfl) (w2 := wM g a u1) (by subst eu; rfl) dX6_firstError_2 (fun H locs X => ?_)
  clear eu
  refine lv_aload_n hx hb dX6_firstError_5 rfl (lv_at hl 0 rfl) ?_
  obtain ⟨⟨r2, u3⟩, hcl, hm⟩ := bnd hm
  refine kVW C X (kX6_findError l g a u1 r2 u3 hcl) (cw_X6_firstError_X6_findError_134 C) 0 (ci := 6) rfl rfl (As := []) rfl hl (rest := []) rfl (Nat.le_of_ble_eq_true rfl) (st2 := [.int r2]) rfl dX6_firstError_6 ⟨Nat.le_of_ble_eq_true rfl, Nat.le_of_ble_eq_true rfl⟩ (fun H locs X => ?_)
  clear hcl
  refine lv_istore_n (lv' := [(1, .int r2), (0, .ref (a 0))]) hx hb dX6_firstError_9 rfl hl (by decide) rfl (fun ls hl => ?_)
  refine lv_iload_n hx hb dX6_firstError_10 rfl (lv_at hl 0 rfl) ?_
  obtain ⟨v4, hE, hm⟩ := bnd hm
  have K : ∀ (H : Heap) (locs : List Loc) (ls : Array Slot), ST g A s H locs (wM g a u3) → lv_has ls 2 [] → W p l e rX6_firstError s m args below meth c H locs 0 0 (kEnd g below args s (some (.int o1)) (wM g a o2) A 0 0) (F0 m 22 ls [.int v4]) := by
    intro H locs ls X hl
    clear hE
    cases sm hm
    exact kiret C X dX6_firstError_22
  clear hm
  have hm := hE
  clear hE
  refine lv_if_ge (tgt := 21) hx hb dX6_firstError_11 (by decide) (fun hc => ?_) (fun hc => ?_)
  · have hm := ifp hc hm
    refine lv_iload_n hx hb dX6_firstError_21 rfl (lv_at hl 0 rfl) ?_
    cases sm hm
    exact K _ _ _ X (lv_sub hl [] rfl)
  · have hm := ifn hc hm
    refine lv_aload_n hx hb dX6_firstError_14 rfl (lv_at hl 1 rfl) ?_
    refine kget C X 0 (ci := 6) rfl rfl hinX6 7 (by decide) hf141 (v := .int (M_length u3)) rfl dX6_firstError_15 ?_
    refine lv_goto (tgt := 22) hx hb dX6_firstError_18 (by decide) ?_
    cases sm hm
    exact K _ _ _ X (lv_sub hl [] rfl)
