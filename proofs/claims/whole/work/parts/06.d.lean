-- X6 BrushStrokesModel.stray(II)I
abbrev rX6_stray : Room := { frames := 4, cells := 0, slots := 0, locals := 110 }
theorem cw_X6_stray_X6_keptOf_160 {p : Program} {s : State} {m : MethodId} {args : Array Value} {meth : Method} {c : Code} {g : kG} {A : Nat → Prop} (C : CT g p s m args meth c RX6 cX6_stray 4 (some .int) wsX6_stray A) : CallW rX6_stray s args RX6 RX6 160 yX6_keptOf cX6_keptOf 2 (some .int) wsX6_keptOf rX6_keptOf 0 0 1 := cwV 1 C.2.2.2.2.2.1 gX6_stray_X6_keptOf rfl rfl rfl (by decide +kernel) ⟨Nat.le_of_ble_eq_true rfl, Nat.le_of_ble_eq_true rfl⟩
theorem cw_X6_stray_X6_ahead_186 {p : Program} {s : State} {m : MethodId} {args : Array Value} {meth : Method} {c : Code} {g : kG} {A : Nat → Prop} (C : CT g p s m args meth c RX6 cX6_stray 4 (some .int) wsX6_stray A) : CallB rX6_stray s args RX6 186 yX6_ahead cX6_ahead 3 (some .int) wsX6_ahead rX6_ahead 0 0 2 ∧ (Cond.static yX6_ahead).before args s = true := cwS 2 C.2.2.2.2.2.1 gX6_stray_X6_ahead rfl rfl rfl (by decide +kernel) ⟨Nat.le_of_ble_eq_true rfl, Nat.le_of_ble_eq_true rfl⟩
theorem cw_X6_stray_X6_behind_101 {p : Program} {s : State} {m : MethodId} {args : Array Value} {meth : Method} {c : Code} {g : kG} {A : Nat → Prop} (C : CT g p s m args meth c RX6 cX6_stray 4 (some .int) wsX6_stray A) : CallB rX6_stray s args RX6 101 yX6_behind cX6_behind 3 (some .int) wsX6_behind rX6_behind 0 0 2 ∧ (Cond.static yX6_behind).before args s = true := cwS 2 C.2.2.2.2.2.1 gX6_stray_X6_behind rfl rfl rfl (by decide +kernel) ⟨Nat.le_of_ble_eq_true rfl, Nat.le_of_ble_eq_true rfl⟩
theorem cw_X6_stray_X6_hundredths_189 {p : Program} {s : State} {m : MethodId} {args : Array Value} {meth : Method} {c : Code} {g : kG} {A : Nat → Prop} (C : CT g p s m args meth c RX6 cX6_stray 4 (some .int) wsX6_stray A) : CallW rX6_stray s args RX6 RX6 189 yX6_hundredths cX6_hundredths 5 (some .int) wsX6_hundredths rX6_hundredths 0 0 4 := cwV 4 C.2.2.2.2.2.1 gX6_stray_X6_hundredths rfl rfl rfl (by decide +kernel) ⟨Nat.le_of_ble_eq_true rfl, Nat.le_of_ble_eq_true rfl⟩
theorem cw_X6_stray_X6_has_54 {p : Program} {s : State} {m : MethodId} {args : Array Value} {meth : Method} {c : Code} {g : kG} {A : Nat → Prop} (C : CT g p s m args meth c RX6 cX6_stray 4 (some .int) wsX6_stray A) : CallB rX6_stray s args RX6 54 yX6_has cX6_has 2 (some .boolean) wsX6_has rX6_has 0 0 2 ∧ (Cond.static yX6_has).before args s = true := cwS 2 C.2.2.2.2.2.1 gX6_stray_X6_has rfl rfl rfl (by decide +kernel) ⟨Nat.le_of_ble_eq_true rfl, Nat.le_of_ble_eq_true rfl⟩
noncomputable def fX6_stray (p1 : Int32) (p2 : Int32) (u : MS) : Option (Int32 × MS) := (fX6_keptOf p1 u).bind fun r1 => (fX6_has r1 p2).bind fun r2 => ((if r2 = 0 then ((fX6_ahead r1 p2).bind fun r9 => (fX6_behind r1 p2).bind fun r10 => (fX6_hundredths p1 p2 r9 r10 u).bind fun (r11, u12) => some (r11, u12)) else (some (0, u))) : Option (Int32 × MS)).bind fun (v7, u8) => some (v7, u8)
set_option maxRecDepth 100000 in
set_option maxHeartbeats 4000000 in
theorem kX6_stray (l : Launch) (g : kG) (a : Nat → Nat) (p1 : Int32) (p2 : Int32) (u : MS) (o1 : Int32) (o2 : MS) (hm : fX6_stray p1 p2 u = some (o1, o2)) : KM l yX6_stray wsX6_stray rX6_stray g [.ref (a 0), .int p1, .int p2] (wM g a u) (some (.int o1)) (wM g a o2) 0 0 := by
  refine KM.of (nL := 4) (by decide) rfl (Nat.le_of_ble_eq_true rfl) ?_
  intro p e s m args below meth c A ls C X hl
  have C : CT g p s m args meth c RX6 cX6_stray 4 (some .int) wsX6_stray A := C
  have hx := C.1
  have hb := C.2.1
  have hl : lv_has ls 4 [(0, .ref (a 0)), (1, .int p1), (2, .int p2)] := hl
  rw [fX6_stray] at hm
  refine lv_aload_n hx hb dX6_stray_0 rfl (lv_at hl 0 rfl) ?_
  refine lv_iload_n hx hb dX6_stray_1 rfl (lv_at hl 1 rfl) ?_
  obtain ⟨r1, hcl, hm⟩ := bnd hm
  refine kVW C X (kX6_keptOf l g a p1 u r1 hcl) (cw_X6_stray_X6_keptOf_160 C) 0 (ci := 6) rfl rfl (As := [.int p1]) rfl hl (rest := []) rfl (Nat.le_of_ble_eq_true rfl) (st2 := [.int r1]) rfl dX6_stray_2 ⟨Nat.le_of_ble_eq_true rfl, Nat.le_of_ble_eq_true rfl⟩ (fun H locs X => ?_)
  clear hcl
  refine lv_istore_n (lv' := [(3, .int r1), (0, .ref (a 0)), (1, .int p1), (2, .int p2)]) hx hb dX6_stray_5 rfl hl (by decide) rfl (fun ls hl => ?_)
  refine lv_iload_n hx hb dX6_stray_6 rfl (lv_at hl 0 rfl) ?_
  refine lv_iload_n hx hb dX6_stray_7 rfl (lv_at hl 3 rfl) ?_
  obtain ⟨r2, hcl, hm⟩ := bnd hm
  refine kS0 C X (kX6_has l g r1 p2 r2 hcl) (cw_X6_stray_X6_has_54 C) (As := [.int r1, .int p2]) rfl hl (rest := []) rfl (Nat.le_of_ble_eq_true rfl) (st2 := [.int r2]) rfl dX6_stray_8 ⟨Nat.le_of_ble_eq_true rfl, Nat.le_of_ble_eq_true rfl⟩ (fun H locs X => ?_)
  clear hcl
  obtain ⟨⟨v7, u8⟩, hE, hm⟩ := bnd hm
  have K : ∀ (H : Heap) (locs : List Loc) (ls : Array Slot), ST g A s H locs (wM g a u8) → lv_has ls 4 [] → W p l e rX6_stray s m args below meth c H locs 0 0 (kEnd g below args s (some (.int o1)) (wM g a o2) A 0 0) (F0 m 34 ls [.int v7]) := by
    intro H locs ls X hl
    clear hE
    cases sm hm
    exact kiret C X dX6_stray_34
  clear hm
  have hm := hE
  clear hE
  refine lv_if_eq (tgt := 18) hx hb dX6_stray_11 (by decide) (fun hc => ?_) (fun hc => ?_)
  · have hm := ifp hc hm
    refine lv_aload_n hx hb dX6_stray_18 rfl (lv_at hl 1 rfl) ?_
    refine lv_iload_n hx hb dX6_stray_19 rfl (lv_at hl 2 rfl) ?_
    refine lv_iload_n hx hb dX6_stray_20 rfl (lv_at hl 3 rfl) ?_
    refine lv_iload_n hx hb dX6_stray_21 rfl (lv_at hl 0 rfl) ?_
    refine lv_iload_n hx hb dX6_stray_22 rfl (lv_at hl 3 rfl) ?_
    obtain ⟨r9, hcl, hm⟩ := bnd hm
    refine kS0 C X (kX6_ahead l g r1 p2 r9 hcl) (cw_X6_stray_X6_ahead_186 C) (As := [.int r1, .int p2]) rfl hl (rest := [.int p2, .int p1, .ref (a 0)]) rfl (Nat.le_of_ble_eq_true rfl) (st2 := [.int r9, .int p2, .int p1, .ref (a 0)]) rfl dX6_stray_23 ⟨Nat.le_of_ble_eq_true rfl, Nat.le_of_ble_eq_true rfl⟩ (fun H locs X => ?_)
    clear hcl
    refine lv_iload_n hx hb dX6_stray_26 rfl (lv_at hl 0 rfl) ?_
    refine lv_iload_n hx hb dX6_stray_27 rfl (lv_at hl 3 rfl) ?_
    obtain ⟨r10, hcl, hm⟩ := bnd hm
    refine kS0 C X (kX6_behind l g r1 p2 r10 hcl) (cw_X6_stray_X6_behind_101 C) (As := [.int r1, .int p2]) rfl hl (rest := [.int r9, .int p2, .int p1, .ref (a 0)]) rfl (Nat.le_of_ble_eq_true rfl) (st2 := [.int r10, .int r9, .int p2, .int p1, .ref (a 0)]) rfl dX6_stray_28 ⟨Nat.le_of_ble_eq_true rfl, Nat.le_of_ble_eq_true rfl⟩ (fun H locs X => ?_)
    clear hcl
    obtain ⟨⟨r11, u12⟩, hcl, hm⟩ := bnd hm
    refine kVW C X (kX6_hundredths l g a p1 p2 r9 r10 u r11 u12 hcl) (cw_X6_stray_X6_hundredths_189 C) 0 (ci := 6) rfl rfl (As := [.int p1, .int p2, .int r9, .int r10]) rfl hl (rest := []) rfl (Nat.le_of_ble_eq_true rfl) (st2 := [.int r11]) rfl dX6_stray_31 ⟨Nat.le_of_ble_eq_true rfl, Nat.le_of_ble_eq_true rfl⟩ (fun H locs X => ?_)
    clear hcl
    cases sm hm
    exact K _ _ _ X (lv_sub hl [] rfl)
  · have hm := ifn hc hm
    refine lv_iconst (v := 0) hx hb dX6_stray_14 (by decide) ?_
    refine lv_goto (tgt := 34) hx hb dX6_stray_15 (by decide) ?_
    cases sm hm
    exact K _ _ _ X (lv_sub hl [] rfl)
-- X6 BrushStrokesModel.point(III)I
abbrev rX6_point : Room := { frames := 5, cells := 0, slots := 0, locals := 133 }
theorem fl_X6_point_35 : (Cond.fieldLink RX6 35 "BrushStrokesModel" "thrown" "I") ∈ wsX6_point := by decide +kernel
theorem in_X6_point_X6 : ∀ w ∈ u_ws RX6 TX6 16, w ∈ wsX6_point := by decide +kernel
theorem cw_X6_point_X6_in_39 {p : Program} {s : State} {m : MethodId} {args : Array Value} {meth : Method} {c : Code} {g : kG} {A : Nat → Prop} (C : CT g p s m args meth c RX6 cX6_point 4 (some .int) wsX6_point A) : CallB rX6_point s args RX6 39 yX6_in cX6_in 3 (some .boolean) wsX6_in rX6_in 0 0 3 ∧ (Cond.static yX6_in).before args s = true := cwS 3 C.2.2.2.2.2.1 gX6_point_X6_in rfl rfl rfl (by decide +kernel) ⟨Nat.le_of_ble_eq_true rfl, Nat.le_of_ble_eq_true rfl⟩
theorem cw_X6_point_X6_isPoint_147 {p : Program} {s : State} {m : MethodId} {args : Array Value} {meth : Method} {c : Code} {g : kG} {A : Nat → Prop} (C : CT g p s m args meth c RX6 cX6_point 4 (some .int) wsX6_point A) : CallW rX6_point s args RX6 RX6 147 yX6_isPoint cX6_isPoint 3 (some .boolean) wsX6_isPoint rX6_isPoint 0 0 2 := cwV 2 C.2.2.2.2.2.1 gX6_point_X6_isPoint rfl rfl rfl (by decide +kernel) ⟨Nat.le_of_ble_eq_true rfl, Nat.le_of_ble_eq_true rfl⟩
theorem cw_X6_point_X6_of_65 {p : Program} {s : State} {m : MethodId} {args : Array Value} {meth : Method} {c : Code} {g : kG} {A : Nat → Prop} (C : CT g p s m args meth c RX6 cX6_point 4 (some .int) wsX6_point A) : CallW rX6_point s args RX6 RX6 65 yX6_of cX6_of 4 (some .int) wsX6_of rX6_of 0 0 3 := cwV 3 C.2.2.2.2.2.1 gX6_point_X6_of rfl rfl rfl (by decide +kernel) ⟨Nat.le_of_ble_eq_true rfl, Nat.le_of_ble_eq_true rfl⟩
theorem cw_X6_point_X6_keptOf_160 {p : Program} {s : State} {m : MethodId} {args : Array Value} {meth : Method} {c : Code} {g : kG} {A : Nat → Prop} (C : CT g p s m args meth c RX6 cX6_point 4 (some .int) wsX6_point A) : CallW rX6_point s args RX6 RX6 160 yX6_keptOf cX6_keptOf 2 (some .int) wsX6_keptOf rX6_keptOf 0 0 1 := cwV 1 C.2.2.2.2.2.1 gX6_point_X6_keptOf rfl rfl rfl (by decide +kernel) ⟨Nat.le_of_ble_eq_true rfl, Nat.le_of_ble_eq_true rfl⟩
theorem cw_X6_point_X6_fixedBy_94 {p : Program} {s : State} {m : MethodId} {args : Array Value} {meth : Method} {c : Code} {g : kG} {A : Nat → Prop} (C : CT g p s m args meth c RX6 cX6_point 4 (some .int) wsX6_point A) : CallW rX6_point s args RX6 RX6 94 yX6_fixedBy cX6_fixedBy 5 (some .int) wsX6_fixedBy rX6_fixedBy 0 0 2 := cwV 2 C.2.2.2.2.2.1 gX6_point_X6_fixedBy rfl rfl rfl (by decide +kernel) ⟨Nat.le_of_ble_eq_true rfl, Nat.le_of_ble_eq_true rfl⟩
theorem cw_X6_point_X6_stray_192 {p : Program} {s : State} {m : MethodId} {args : Array Value} {meth : Method} {c : Code} {g : kG} {A : Nat → Prop} (C : CT g p s m args meth c RX6 cX6_point 4 (some .int) wsX6_point A) : CallW rX6_point s args RX6 RX6 192 yX6_stray cX6_stray 4 (some .int) wsX6_stray rX6_stray 0 0 2 := cwV 2 C.2.2.2.2.2.1 gX6_point_X6_stray rfl rfl rfl (by decide +kernel) ⟨Nat.le_of_ble_eq_true rfl, Nat.le_of_ble_eq_true rfl⟩
noncomputable def fX6_point (p1 : Int32) (p2 : Int32) (p3 : Int32) (u : MS) : Option (Int32 × MS) := (fX6_isPoint p1 p2 u).bind fun r1 => ((if r1 = 0 then (some 1) else ((fX6_in p3 0 5).bind fun r4 => if r4 = 0 then (some 2) else (some 0))) : Option (Int32)).bind fun v3 => lt (M_s_thrown u v3) fun u5 => if (M_thrown u5) ≤ 0 then (if 3 ≤ p3 then (((if p3 = 3 then ((fX6_keptOf p1 u5).bind fun r15 => some ((r15 >>> (p2 &&& 31)) &&& 1, u5)) else (if p3 = 4 then ((fX6_fixedBy p1 p2 u5).bind fun r14 => some (r14, u5)) else ((fX6_stray p1 p2 u5).bind fun (r12, u13) => some (r12, u13)))) : Option (Int32 × MS)).bind fun (v10, u11) => some (v10, u11)) else ((fX6_of p1 p2 p3 u5).bind fun r16 => some (r16, u5))) else (some (0, u5))
set_option maxRecDepth 100000 in
set_option maxHeartbeats 4000000 in
theorem kX6_point (l : Launch) (g : kG) (a : Nat → Nat) (p1 : Int32) (p2 : Int32) (p3 : Int32) (u : MS) (o1 : Int32) (o2 : MS) (hm : fX6_point p1 p2 p3 u = some (o1, o2)) : KM l yX6_point wsX6_point rX6_point g [.ref (a 0), .int p1, .int p2, .int p3] (wM g a u) (some (.int o1)) (wM g a o2) 0 0 := by
  refine KM.of (nL := 4) (by decide) rfl (Nat.le_of_ble_eq_true rfl) ?_
  intro p e s m args below meth c A ls C X hl
  have C : CT g p s m args meth c RX6 cX6_point 4 (some .int) wsX6_point A := C
  have hx := C.1
  have hb := C.2.1
  have hl : lv_has ls 4 [(0, .ref (a 0)), (1, .int p1), (2, .int p2), (3, .int p3)] := hl
  have hinX6 := in_X6_point_X6
  have hf35 := C.2.2.2.2.2.1 _ fl_X6_point_35
  rw [fX6_point] at hm
  refine lv_aload_n hx hb dX6_point_0 rfl (lv_at hl 0 rfl) ?_
  refine lv_aload_n hx hb dX6_point_1 rfl (lv_at hl 0 rfl) ?_
  refine lv_iload_n hx hb dX6_point_2 rfl (lv_at hl 1 rfl) ?_
  refine lv_iload_n hx hb dX6_point_3 rfl (lv_at hl 2 rfl) ?_
  obtain ⟨r1, hcl, hm⟩ := bnd hm
  refine kVW C X (kX6_isPoint l g a p1 p2 u r1 hcl) (cw_X6_point_X6_isPoint_147 C) 0 (ci := 6) rfl rfl (As := [.int p1, .int p2]) rfl hl (rest := [.ref (a 0)]) rfl (Nat.le_of_ble_eq_true rfl) (st2 := [.int r1, .ref (a 0)]) rfl dX6_point_4 ⟨Nat.le_of_ble_eq_true rfl, Nat.le_of_ble_eq_true rfl⟩ (fun H locs X => ?_)
  clear hcl
  obtain ⟨v3, hE, hm⟩ := bnd hm
  have K : ∀ (H : Heap) (locs : List Loc) (ls : Array Slot), ST g A s H locs (wM g a u) → lv_has ls 4 [(0, .ref (a 0)), (1, .int p1), (2, .int p2), (3, .int p3)] → W p l e rX6_point s m args below meth c H locs 0 0 (kEnd g below args s (some (.int o1)) (wM g a o2) A 0 0) (F0 m 28 ls [.int v3, .ref (a 0)]) := by
    intro H locs ls X hl
    clear hE
    obtain ⟨u5, eu⟩ : ∃ z, z = M_s_thrown u v3 := ⟨_, rfl⟩
    have hm := lt_t eu hm
    refine kput C X 0 (ci := 6) rfl rfl hinX6 tyX6_ok nmX6 0 (by decide) hf35 rfl (ty := .int) (v := .int v3) rfl rfl rfl (Nat.le_of_ble_eq_true rfl) (w2 := wM g a u5) (by subst eu; rfl) dX6_point_28 (fun H locs X => ?_)
    clear eu
    refine lv_aload_n hx hb dX6_point_31 rfl (lv_at hl 0 rfl) ?_
    refine kget C X 0 (ci := 6) rfl rfl hinX6 0 (by decide) hf35 (v := .int (M_thrown u5)) rfl dX6_point_32 ?_
    refine lv_if_le (tgt := 40) hx hb dX6_point_35 (by decide) (fun hc => ?_) (fun hc => ?_)
    · have hm := ifp hc hm
      refine lv_iload_n hx hb dX6_point_40 rfl (lv_at hl 3 rfl) ?_
      refine lv_iconst (v := 3) hx hb dX6_point_41 (by decide) ?_
      refine lv_icmp_ge (tgt := 53) hx hb dX6_point_42 (by decide) (fun hc => ?_) (fun hc => ?_)
      · have hm := ifp hc hm
        refine lv_iload_n hx hb dX6_point_53 rfl (lv_at hl 3 rfl) ?_
        refine lv_iconst (v := 3) hx hb dX6_point_54 (by decide) ?_
        obtain ⟨⟨v10, u11⟩, hE, hm⟩ := bnd hm
        have K : ∀ (H : Heap) (locs : List Loc) (ls : Array Slot), ST g A s H locs (wM g a u11) → lv_has ls 4 [] → W p l e rX6_point s m args below meth c H locs 0 0 (kEnd g below args s (some (.int o1)) (wM g a o2) A 0 0) (F0 m 90 ls [.int v10]) := by
          intro H locs ls X hl
          clear hE
          cases sm hm
          exact kiret C X dX6_point_90
        clear hm
        have hm := hE
        clear hE
        refine lv_icmp_ne (tgt := 70) hx hb dX6_point_55 (by decide) (fun hc => ?_) (fun hc => ?_)
        · have hm := ifn hc hm
          refine lv_iload_n hx hb dX6_point_70 rfl (lv_at hl 3 rfl) ?_
          refine lv_iconst (v := 4) hx hb dX6_point_71 (by decide) ?_
          refine lv_icmp_ne (tgt := 84) hx hb dX6_point_72 (by decide) (fun hc => ?_) (fun hc => ?_)
          · have hm := ifn hc hm
            refine lv_aload_n hx hb dX6_point_84 rfl (lv_at hl 0 rfl) ?_
            refine lv_iload_n hx hb dX6_point_85 rfl (lv_at hl 1 rfl) ?_
            refine lv_iload_n hx hb dX6_point_86 rfl (lv_at hl 2 rfl) ?_
            obtain ⟨⟨r12, u13⟩, hcl, hm⟩ := bnd hm
            refine kVW C X (kX6_stray l g a p1 p2 u5 r12 u13 hcl) (cw_X6_point_X6_stray_192 C) 0 (ci := 6) rfl rfl (As := [.int p1, .int p2]) rfl hl (rest := []) rfl (Nat.le_of_ble_eq_true rfl) (st2 := [.int r12]) rfl dX6_point_87 ⟨Nat.le_of_ble_eq_true rfl, Nat.le_of_ble_eq_true rfl⟩ (fun H locs X => ?_)
            clear hcl
            cases sm hm
            exact K _ _ _ X (lv_sub hl [] rfl)
          · have hm := ifp hc hm
            refine lv_aload_n hx hb dX6_point_75 rfl (lv_at hl 0 rfl) ?_
            refine lv_iload_n hx hb dX6_point_76 rfl (lv_at hl 1 rfl) ?_
            refine lv_iload_n hx hb dX6_point_77 rfl (lv_at hl 2 rfl) ?_
            obtain ⟨r14, hcl, hm⟩ := bnd hm
            refine kVW C X (kX6_fixedBy l g a p1 p2 u5 r14 hcl) (cw_X6_point_X6_fixedBy_94 C) 0 (ci := 6) rfl rfl (As := [.int p1, .int p2]) rfl hl (rest := []) rfl (Nat.le_of_ble_eq_true rfl) (st2 := [.int r14]) rfl dX6_point_78 ⟨Nat.le_of_ble_eq_true rfl, Nat.le_of_ble_eq_true rfl⟩ (fun H locs X => ?_)
            clear hcl
            refine lv_goto (tgt := 90) hx hb dX6_point_81 (by decide) ?_
            cases sm hm
            exact K _ _ _ X (lv_sub hl [] rfl)
        · have hm := ifp hc hm
          refine lv_aload_n hx hb dX6_point_58 rfl (lv_at hl 0 rfl) ?_
          refine lv_iload_n hx hb dX6_point_59 rfl (lv_at hl 1 rfl) ?_
          obtain ⟨r15, hcl, hm⟩ := bnd hm
          refine kVW C X (kX6_keptOf l g a p1 u5 r15 hcl) (cw_X6_point_X6_keptOf_160 C) 0 (ci := 6) rfl rfl (As := [.int p1]) rfl hl (rest := []) rfl (Nat.le_of_ble_eq_true rfl) (st2 := [.int r15]) rfl dX6_point_60 ⟨Nat.le_of_ble_eq_true rfl, Nat.le_of_ble_eq_true rfl⟩ (fun H locs X => ?_)
          clear hcl
          refine lv_iload_n hx hb dX6_point_63 rfl (lv_at hl 2 rfl) ?_
          refine lv_ishr hx hb dX6_point_64 ?_
          refine lv_iconst (v := 1) hx hb dX6_point_65 (by decide) ?_
          refine lv_iand hx hb dX6_point_66 ?_
          refine lv_goto (tgt := 90) hx hb dX6_point_67 (by decide) ?_
          cases sm hm
          exact K _ _ _ X (lv_sub hl [] rfl)
      · have hm := ifn hc hm
        refine lv_aload_n hx hb dX6_point_45 rfl (lv_at hl 0 rfl) ?_
        refine lv_iload_n hx hb dX6_point_46 rfl (lv_at hl 1 rfl) ?_
        refine lv_iload_n hx hb dX6_point_47 rfl (lv_at hl 2 rfl) ?_
        refine lv_iload_n hx hb dX6_point_48 rfl (lv_at hl 3 rfl) ?_
        obtain ⟨r16, hcl, hm⟩ := bnd hm
        refine kVW C X (kX6_of l g a p1 p2 p3 u5 r16 hcl) (cw_X6_point_X6_of_65 C) 0 (ci := 6) rfl rfl (As := [.int p1, .int p2, .int p3]) rfl hl (rest := []) rfl (Nat.le_of_ble_eq_true rfl) (st2 := [.int r16]) rfl dX6_point_49 ⟨Nat.le_of_ble_eq_true rfl, Nat.le_of_ble_eq_true rfl⟩ (fun H locs X => ?_)
        clear hcl
        cases sm hm
        exact kiret C X dX6_point_52
    · have hm := ifn hc hm
      refine lv_iconst (v := 0) hx hb dX6_point_38 (by decide) ?_
      cases sm hm
      exact kiret C X dX6_point_39
  clear hm
  have hm := hE
  clear hE
  refine lv_if_ne (tgt := 14) hx hb dX6_point_7 (by decide) (fun hc => ?_) (fun hc => ?_)
  · have hm := ifn hc hm
    refine lv_iload_n hx hb dX6_point_14 rfl (lv_at hl 3 rfl) ?_
    refine lv_iconst (v := 0) hx hb dX6_point_15 (by decide) ?_
    refine lv_iconst (v := 5) hx hb dX6_point_16 (by decide) ?_
    obtain ⟨r4, hcl, hm⟩ := bnd hm
    refine kS0 C X (kX6_in l g p3 0 5 r4 hcl) (cw_X6_point_X6_in_39 C) (As := [.int p3, .int 0, .int 5]) rfl hl (rest := [.ref (a 0)]) rfl (Nat.le_of_ble_eq_true rfl) (st2 := [.int r4, .ref (a 0)]) rfl dX6_point_17 ⟨Nat.le_of_ble_eq_true rfl, Nat.le_of_ble_eq_true rfl⟩ (fun H locs X => ?_)
    clear hcl
    refine lv_if_eq (tgt := 27) hx hb dX6_point_20 (by decide) (fun hc => ?_) (fun hc => ?_)
    · have hm := ifp hc hm
      refine lv_iconst (v := 2) hx hb dX6_point_27 (by decide) ?_
      cases sm hm
      exact K _ _ _ X (lv_sub hl [0, 1, 2, 3] rfl)
    · have hm := ifn hc hm
      refine lv_iconst (v := 0) hx hb dX6_point_23 (by decide) ?_
      refine lv_goto (tgt := 28) hx hb dX6_point_24 (by decide) ?_
      cases sm hm
      exact K _ _ _ X (lv_sub hl [0, 1, 2, 3] rfl)
  · have hm := ifp hc hm
    refine lv_iconst (v := 1) hx hb dX6_point_10 (by decide) ?_
    refine lv_goto (tgt := 28) hx hb dX6_point_11 (by decide) ?_
    cases sm hm
    exact K _ _ _ X (lv_sub hl [0, 1, 2, 3] rfl)
-- X6 BrushStrokesModel.fixedMany(II)I
abbrev rX6_fixedMany : Room := { frames := 3, cells := 0, slots := 0, locals := 84 }
theorem cw_X6_fixedMany_X6_fixedBy_94 {p : Program} {s : State} {m : MethodId} {args : Array Value} {meth : Method} {c : Code} {g : kG} {A : Nat → Prop} (C : CT g p s m args meth c RX6 cX6_fixedMany 5 (some .int) wsX6_fixedMany A) : CallW rX6_fixedMany s args RX6 RX6 94 yX6_fixedBy cX6_fixedBy 5 (some .int) wsX6_fixedBy rX6_fixedBy 0 0 2 := cwV 2 C.2.2.2.2.2.1 gX6_fixedMany_X6_fixedBy rfl rfl rfl (by decide +kernel) ⟨Nat.le_of_ble_eq_true rfl, Nat.le_of_ble_eq_true rfl⟩
theorem cw_X6_fixedMany_X6_points_47 {p : Program} {s : State} {m : MethodId} {args : Array Value} {meth : Method} {c : Code} {g : kG} {A : Nat → Prop} (C : CT g p s m args meth c RX6 cX6_fixedMany 5 (some .int) wsX6_fixedMany A) : CallW rX6_fixedMany s args RX6 RX6 47 yX6_points cX6_points 2 (some .int) wsX6_points rX6_points 0 0 1 := cwV 1 C.2.2.2.2.2.1 gX6_fixedMany_X6_points rfl rfl rfl (by decide +kernel) ⟨Nat.le_of_ble_eq_true rfl, Nat.le_of_ble_eq_true rfl⟩
noncomputable def bX6_fixedMany_5 (c1 : Int32) (c2 : Int32) (w5 : MS) : Int32 × Int32 → Option ((Int32 × Int32) ⊕ (Int32))
  | (x3, x4) => (fX6_points c1 w5).bind fun r7 => if r7 ≤ x4 then (some (.inr x3)) else ((fX6_fixedBy c1 x4 w5).bind fun r8 => ((if (r8 &&& c2) = 0 then (some 0) else (some 1)) : Option (Int32)).bind fun v9 => some (.inl (x3 + v9, x4 + 1)))
noncomputable def lX6_fixedMany_5 (c1 : Int32) (c2 : Int32) (w5 : MS) (x3 : Int32) (x4 : Int32) : Option (Int32) := lp (bX6_fixedMany_5 c1 c2 w5) (x3, x4)
theorem lX6_fixedMany_5_eq (c1 : Int32) (c2 : Int32) (w5 : MS) (x3 : Int32) (x4 : Int32) : lX6_fixedMany_5 c1 c2 w5 x3 x4 = ((fX6_points c1 w5).bind fun r7 => if r7 ≤ x4 then (some (.inr x3)) else ((fX6_fixedBy c1 x4 w5).bind fun r8 => ((if (r8 &&& c2) = 0 then (some 0) else (some 1)) : Option (Int32)).bind fun v9 => some (.inl (x3 + v9, x4 + 1)))).bind fun r => Sum.elim (fun z => lX6_fixedMany_5 c1 c2 w5 z.1 z.2) (fun r => some r) r := lp_eq (bX6_fixedMany_5 c1 c2 w5) (x3, x4)
set_option maxRecDepth 100000 in
set_option maxHeartbeats 4000000 in
theorem tX6_fixedMany_5 {p : Program} {l : Launch} {e : Env} {s : State} {m : MethodId} {args : Array Value} {below : List Frame} {meth : Method} {c : Code} {g : kG} {A : Nat → Prop} {Q : State → Prop} (a : Nat → Nat) (C : CT g p s m args meth c RX6 cX6_fixedMany 5 (some .int) wsX6_fixedMany A) (c1 : Int32) (c2 : Int32) (w5 : MS) (y6 : Int32) (kk : ∀ (H : Heap) (locs : List Loc) (ls : Array Slot), ST g A s H locs (wM g a w5) → lv_has ls 5 [(3, .int y6)] → W p l e rX6_fixedMany s m args below meth c H locs 0 0 Q (F0 m 41 ls [])) : ∀ (n : Nat) (x3 : Int32) (x4 : Int32), whl (bX6_fixedMany_5 c1 c2 w5) n (x3, x4) = some y6 → ∀ (H : Heap) (locs : List Loc) (ls : Array Slot), ST g A s H locs (wM g a w5) → lv_has ls 5 [(0, .ref (a 0)), (1, .int c1), (2, .int c2), (3, .int x3), (4, .int x4)] → W p l e rX6_fixedMany s m args below meth c H locs 0 0 Q (F0 m 5 ls []) := by
  have hx := C.1
  have hb := C.2.1
  intro n
  induction n with
  | zero =>
    intro x3 x4 hm
    cases hm
  | succ n ih =>
    intro x3 x4 hm H locs ls X hl
    rw [whl] at hm
    obtain ⟨q, hq, hm2⟩ := bnd hm
    clear hm
    have hm := hq
    clear hq
    rw [bX6_fixedMany_5] at hm
    refine lv_iload hx hb dX6_fixedMany_5 (lv_at hl 4 rfl) ?_
    refine lv_aload_n hx hb dX6_fixedMany_7 rfl (lv_at hl 0 rfl) ?_
    refine lv_iload_n hx hb dX6_fixedMany_8 rfl (lv_at hl 1 rfl) ?_
    obtain ⟨r7, hcl, hm⟩ := bnd hm
    refine kVW C X (kX6_points l g a c1 w5 r7 hcl) (cw_X6_fixedMany_X6_points_47 C) 0 (ci := 6) rfl rfl (As := [.int c1]) rfl hl (rest := [.int x4]) rfl (Nat.le_of_ble_eq_true rfl) (st2 := [.int r7, .int x4]) rfl dX6_fixedMany_9 ⟨Nat.le_of_ble_eq_true rfl, Nat.le_of_ble_eq_true rfl⟩ (fun H locs X => ?_)
    clear hcl
    refine lv_icmp_ge (tgt := 41) hx hb dX6_fixedMany_12 (by decide) (fun hc => ?_) (fun hc => ?_)
    · have hm := ifp hc hm
      cases sm hm
      cases sm hm2
      exact kk _ _ _ X (lv_sub hl [3] rfl)
    · have hm := ifn hc hm
      refine lv_iload_n hx hb dX6_fixedMany_15 rfl (lv_at hl 3 rfl) ?_
      refine lv_aload_n hx hb dX6_fixedMany_16 rfl (lv_at hl 0 rfl) ?_
      refine lv_iload_n hx hb dX6_fixedMany_17 rfl (lv_at hl 1 rfl) ?_
      refine lv_iload hx hb dX6_fixedMany_18 (lv_at hl 4 rfl) ?_
      obtain ⟨r8, hcl, hm⟩ := bnd hm
      refine kVW C X (kX6_fixedBy l g a c1 x4 w5 r8 hcl) (cw_X6_fixedMany_X6_fixedBy_94 C) 0 (ci := 6) rfl rfl (As := [.int c1, .int x4]) rfl hl (rest := [.int x3]) rfl (Nat.le_of_ble_eq_true rfl) (st2 := [.int r8, .int x3]) rfl dX6_fixedMany_20 ⟨Nat.le_of_ble_eq_true rfl, Nat.le_of_ble_eq_true rfl⟩ (fun H locs X => ?_)
      clear hcl
      refine lv_iload_n hx hb dX6_fixedMany_23 rfl (lv_at hl 2 rfl) ?_
      refine lv_iand hx hb dX6_fixedMany_24 ?_
      obtain ⟨v9, hE, hm⟩ := bnd hm
      have K : ∀ (H : Heap) (locs : List Loc) (ls : Array Slot), ST g A s H locs (wM g a w5) → lv_has ls 5 [(0, .ref (a 0)), (1, .int c1), (2, .int c2), (4, .int x4)] → W p l e rX6_fixedMany s m args below meth c H locs 0 0 Q (F0 m 33 ls [.int v9, .int x3]) := by
        intro H locs ls X hl
        clear hE
        refine lv_iadd hx hb dX6_fixedMany_33 ?_
        refine lv_istore_n (lv' := [(3, .int (x3 + v9)), (0, .ref (a 0)), (1, .int c1), (2, .int c2), (4, .int x4)]) hx hb dX6_fixedMany_34 rfl hl (by decide) rfl (fun ls hl => ?_)
        refine lv_iinc (v := x4 + 1) (lv' := [(4, .int (x4 + 1)), (3, .int (x3 + v9)), (0, .ref (a 0)), (1, .int c1), (2, .int c2)]) hx hb dX6_fixedMany_35 hl (k := 4) rfl rfl (by decide) rfl (fun ls hl => ?_)
        refine lv_goto (tgt := 5) hx hb dX6_fixedMany_38 (by decide) ?_
        cases sm hm
        exact ih _ _ hm2 _ _ _ X (lv_sub hl [2, 3, 4, 1, 0] rfl)
      clear hm
      have hm := hE
      clear hE
      refine lv_if_eq (tgt := 32) hx hb dX6_fixedMany_25 (by decide) (fun hc => ?_) (fun hc => ?_)
      · have hm := ifp hc hm
        refine lv_iconst (v := 0) hx hb dX6_fixedMany_32 (by decide) ?_
        cases sm hm
        exact K _ _ _ X (lv_sub hl [0, 1, 2, 4] rfl)
      · have hm := ifn hc hm
        refine lv_iconst (v := 1) hx hb dX6_fixedMany_28 (by decide) ?_
        refine lv_goto (tgt := 33) hx hb dX6_fixedMany_29 (by decide) ?_
        cases sm hm
        exact K _ _ _ X (lv_sub hl [0, 1, 2, 4] rfl)
noncomputable def fX6_fixedMany (p1 : Int32) (p2 : Int32) (u : MS) : Option (Int32) := (lX6_fixedMany_5 p1 p2 u 0 0).bind fun y10 => some y10
set_option maxRecDepth 100000 in
set_option maxHeartbeats 4000000 in
theorem kX6_fixedMany (l : Launch) (g : kG) (a : Nat → Nat) (p1 : Int32) (p2 : Int32) (u : MS) (o1 : Int32) (hm : fX6_fixedMany p1 p2 u = some o1) : KM l yX6_fixedMany wsX6_fixedMany rX6_fixedMany g [.ref (a 0), .int p1, .int p2] (wM g a u) (some (.int o1)) (wM g a u) 0 0 := by
  refine KM.of (nL := 5) (by decide) rfl (Nat.le_of_ble_eq_true rfl) ?_
  intro p e s m args below meth c A ls C X hl
  have C : CT g p s m args meth c RX6 cX6_fixedMany 5 (some .int) wsX6_fixedMany A := C
  have hx := C.1
  have hb := C.2.1
  have hl : lv_has ls 5 [(0, .ref (a 0)), (1, .int p1), (2, .int p2)] := hl
  rw [fX6_fixedMany] at hm
  refine lv_iconst (v := 0) hx hb dX6_fixedMany_0 (by decide) ?_
  refine lv_istore_n (lv' := [(3, .int 0), (0, .ref (a 0)), (1, .int p1), (2, .int p2)]) hx hb dX6_fixedMany_1 rfl hl (by decide) rfl (fun ls hl => ?_)
  refine lv_iconst (v := 0) hx hb dX6_fixedMany_2 (by decide) ?_
  refine lv_istore (lv' := [(4, .int 0), (3, .int 0), (0, .ref (a 0)), (1, .int p1), (2, .int p2)]) hx hb dX6_fixedMany_3 hl (by decide) rfl (fun ls hl => ?_)
  obtain ⟨y10, hL, hm⟩ := bnd hm
  obtain ⟨nn, hn⟩ := lp_run hL
  refine tX6_fixedMany_5 a C p1 p2 u y10 (fun H locs ls X hl => ?_) nn _ _ hn _ _ _ X (lv_sub hl [2, 3, 4, 1, 0] rfl)
  clear hL hn
  refine lv_iload_n hx hb dX6_fixedMany_41 rfl (lv_at hl 0 rfl) ?_
  cases sm hm
  exact kiret C X dX6_fixedMany_42
-- X6 BrushStrokesModel.lengthOf(I)I
abbrev rX6_lengthOf : Room := { frames := 2, cells := 0, slots := 0, locals := 50 }
theorem cw_X6_lengthOf_X6_points_47 {p : Program} {s : State} {m : MethodId} {args : Array Value} {meth : Method} {c : Code} {g : kG} {A : Nat → Prop} (C : CT g p s m args meth c RX6 cX6_lengthOf 6 (some .int) wsX6_lengthOf A) : CallW rX6_lengthOf s args RX6 RX6 47 yX6_points cX6_points 2 (some .int) wsX6_points rX6_points 0 0 1 := cwV 1 C.2.2.2.2.2.1 gX6_lengthOf_X6_points rfl rfl rfl (by decide +kernel) ⟨Nat.le_of_ble_eq_true rfl, Nat.le_of_ble_eq_true rfl⟩
theorem cw_X6_lengthOf_X6_keptOf_160 {p : Program} {s : State} {m : MethodId} {args : Array Value} {meth : Method} {c : Code} {g : kG} {A : Nat → Prop} (C : CT g p s m args meth c RX6 cX6_lengthOf 6 (some .int) wsX6_lengthOf A) : CallW rX6_lengthOf s args RX6 RX6 160 yX6_keptOf cX6_keptOf 2 (some .int) wsX6_keptOf rX6_keptOf 0 0 1 := cwV 1 C.2.2.2.2.2.1 gX6_lengthOf_X6_keptOf rfl rfl rfl (by decide +kernel) ⟨Nat.le_of_ble_eq_true rfl, Nat.le_of_ble_eq_true rfl⟩
theorem cw_X6_lengthOf_X6_behind_101 {p : Program} {s : State} {m : MethodId} {args : Array Value} {meth : Method} {c : Code} {g : kG} {A : Nat → Prop} (C : CT g p s m args meth c RX6 cX6_lengthOf 6 (some .int) wsX6_lengthOf A) : CallB rX6_lengthOf s args RX6 101 yX6_behind cX6_behind 3 (some .int) wsX6_behind rX6_behind 0 0 2 ∧ (Cond.static yX6_behind).before args s = true := cwS 2 C.2.2.2.2.2.1 gX6_lengthOf_X6_behind rfl rfl rfl (by decide +kernel) ⟨Nat.le_of_ble_eq_true rfl, Nat.le_of_ble_eq_true rfl⟩
theorem cw_X6_lengthOf_X6_square_76 {p : Program} {s : State} {m : MethodId} {args : Array Value} {meth : Method} {c : Code} {g : kG} {A : Nat → Prop} (C : CT g p s m args meth c RX6 cX6_lengthOf 6 (some .int) wsX6_lengthOf A) : CallW rX6_lengthOf s args RX6 RX6 76 yX6_square cX6_square 8 (some .long) wsX6_square rX6_square 0 0 3 := cwV 3 C.2.2.2.2.2.1 gX6_lengthOf_X6_square rfl rfl rfl (by decide +kernel) ⟨Nat.le_of_ble_eq_true rfl, Nat.le_of_ble_eq_true rfl⟩
theorem cw_X6_lengthOf_X6_root_86 {p : Program} {s : State} {m : MethodId} {args : Array Value} {meth : Method} {c : Code} {g : kG} {A : Nat → Prop} (C : CT g p s m args meth c RX6 cX6_lengthOf 6 (some .int) wsX6_lengthOf A) : CallB rX6_lengthOf s args RX6 86 yX6_root cX6_root 6 (some .int) wsX6_root rX6_root 0 0 1 ∧ (Cond.static yX6_root).before args s = true := cwS 1 C.2.2.2.2.2.1 gX6_lengthOf_X6_root rfl rfl rfl (by decide +kernel) ⟨Nat.le_of_ble_eq_true rfl, Nat.le_of_ble_eq_true rfl⟩
noncomputable def bX6_lengthOf_11 (c2 : Int32) (c3 : Int32) (w6 : MS) : Int32 × Int32 → Option ((Int32 × Int32) ⊕ (Int32))
  | (x4, x5) => (fX6_points c2 w6).bind fun r8 => if (r8 - 1) ≤ x5 then (some (.inr x4)) else ((fX6_behind c3 x5).bind fun r9 => (fX6_square c2 x5 r9 w6).bind fun r10 => (fX6_root (10000 * r10)).bind fun r11 => some (.inl (x4 + r11, r9)))
noncomputable def lX6_lengthOf_11 (c2 : Int32) (c3 : Int32) (w6 : MS) (x4 : Int32) (x5 : Int32) : Option (Int32) := lp (bX6_lengthOf_11 c2 c3 w6) (x4, x5)
theorem lX6_lengthOf_11_eq (c2 : Int32) (c3 : Int32) (w6 : MS) (x4 : Int32) (x5 : Int32) : lX6_lengthOf_11 c2 c3 w6 x4 x5 = ((fX6_points c2 w6).bind fun r8 => if (r8 - 1) ≤ x5 then (some (.inr x4)) else ((fX6_behind c3 x5).bind fun r9 => (fX6_square c2 x5 r9 w6).bind fun r10 => (fX6_root (10000 * r10)).bind fun r11 => some (.inl (x4 + r11, r9)))).bind fun r => Sum.elim (fun z => lX6_lengthOf_11 c2 c3 w6 z.1 z.2) (fun r => some r) r := lp_eq (bX6_lengthOf_11 c2 c3 w6) (x4, x5)
set_option maxRecDepth 100000 in
set_option maxHeartbeats 4000000 in
theorem tX6_lengthOf_11 {p : Program} {l : Launch} {e : Env} {s : State} {m : MethodId} {args : Array Value} {below : List Frame} {meth : Method} {c : Code} {g : kG} {A : Nat → Prop} {Q : State → Prop} (a : Nat → Nat) (C : CT g p s m args meth c RX6 cX6_lengthOf 6 (some .int) wsX6_lengthOf A) (c2 : Int32) (c3 : Int32) (w6 : MS) (y7 : Int32) (kk : ∀ (H : Heap) (locs : List Loc) (ls : Array Slot), ST g A s H locs (wM g a w6) → lv_has ls 6 [(3, .int y7)] → W p l e rX6_lengthOf s m args below meth c H locs 0 0 Q (F0 m 57 ls [])) : ∀ (n : Nat) (x4 : Int32) (x5 : Int32), whl (bX6_lengthOf_11 c2 c3 w6) n (x4, x5) = some y7 → ∀ (H : Heap) (locs : List Loc) (ls : Array Slot), ST g A s H locs (wM g a w6) → lv_has ls 6 [(0, .ref (a 0)), (1, .int c2), (2, .int c3), (3, .int x4), (4, .int x5)] → W p l e rX6_lengthOf s m args below meth c H locs 0 0 Q (F0 m 11 ls []) := by
  have hx := C.1
  have hb := C.2.1
  intro n
  induction n with
  | zero =>
    intro x4 x5 hm
    cases hm
  | succ n ih =>
    intro x4 x5 hm H locs ls X hl
    rw [whl] at hm
    obtain ⟨q, hq, hm2⟩ := bnd hm
    clear hm
    have hm := hq
    clear hq
    rw [bX6_lengthOf_11] at hm
    refine lv_iload hx hb dX6_lengthOf_11 (lv_at hl 4 rfl) ?_
    refine lv_aload_n hx hb dX6_lengthOf_13 rfl (lv_at hl 0 rfl) ?_
    refine lv_iload_n hx hb dX6_lengthOf_14 rfl (lv_at hl 1 rfl) ?_
    obtain ⟨r8, hcl, hm⟩ := bnd hm
    refine kVW C X (kX6_points l g a c2 w6 r8 hcl) (cw_X6_lengthOf_X6_points_47 C) 0 (ci := 6) rfl rfl (As := [.int c2]) rfl hl (rest := [.int x5]) rfl (Nat.le_of_ble_eq_true rfl) (st2 := [.int r8, .int x5]) rfl dX6_lengthOf_15 ⟨Nat.le_of_ble_eq_true rfl, Nat.le_of_ble_eq_true rfl⟩ (fun H locs X => ?_)
    clear hcl
    refine lv_iconst (v := 1) hx hb dX6_lengthOf_18 (by decide) ?_
    refine lv_isub hx hb dX6_lengthOf_19 ?_
    refine lv_icmp_ge (tgt := 57) hx hb dX6_lengthOf_20 (by decide) (fun hc => ?_) (fun hc => ?_)
    · have hm := ifp hc hm
      cases sm hm
      cases sm hm2
      exact kk _ _ _ X (lv_sub hl [3] rfl)
    · have hm := ifn hc hm
      refine lv_iload_n hx hb dX6_lengthOf_23 rfl (lv_at hl 2 rfl) ?_
      refine lv_iload hx hb dX6_lengthOf_24 (lv_at hl 4 rfl) ?_
      obtain ⟨r9, hcl, hm⟩ := bnd hm
      refine kS0 C X (kX6_behind l g c3 x5 r9 hcl) (cw_X6_lengthOf_X6_behind_101 C) (As := [.int c3, .int x5]) rfl hl (rest := []) rfl (Nat.le_of_ble_eq_true rfl) (st2 := [.int r9]) rfl dX6_lengthOf_26 ⟨Nat.le_of_ble_eq_true rfl, Nat.le_of_ble_eq_true rfl⟩ (fun H locs X => ?_)
      clear hcl
      refine lv_istore (lv' := [(5, .int r9), (0, .ref (a 0)), (1, .int c2), (2, .int c3), (3, .int x4), (4, .int x5)]) hx hb dX6_lengthOf_29 hl (by decide) rfl (fun ls hl => ?_)
      refine lv_iload_n hx hb dX6_lengthOf_31 rfl (lv_at hl 4 rfl) ?_
      refine lv_ldc2 (v := 10000) hx hb C.2.2.2.2.1 (C.2.2.2.2.2.1 (.constantLong RX6 84 10000) (by decide +kernel)) dX6_lengthOf_32 ?_
      refine lv_aload_n hx hb dX6_lengthOf_35 rfl (lv_at hl 1 rfl) ?_
      refine lv_iload_n hx hb dX6_lengthOf_36 rfl (lv_at hl 2 rfl) ?_
      refine lv_iload hx hb dX6_lengthOf_37 (lv_at hl 5 rfl) ?_
      refine lv_iload hx hb dX6_lengthOf_39 (lv_at hl 0 rfl) ?_
      obtain ⟨r10, hcl, hm⟩ := bnd hm
      refine kVW C X (kX6_square l g a c2 x5 r9 w6 r10 hcl) (cw_X6_lengthOf_X6_square_76 C) 0 (ci := 6) rfl rfl (As := [.int c2, .int x5, .int r9]) rfl hl (rest := [.long 10000, .int x4]) rfl (Nat.le_of_ble_eq_true rfl) (st2 := [.long r10, .long 10000, .int x4]) rfl dX6_lengthOf_41 ⟨Nat.le_of_ble_eq_true rfl, Nat.le_of_ble_eq_true rfl⟩ (fun H locs X => ?_)
      clear hcl
      refine lv_lmul hx hb dX6_lengthOf_44 ?_
      obtain ⟨r11, hcl, hm⟩ := bnd hm
      refine kS0 C X (kX6_root l g (10000 * r10) r11 hcl) (cw_X6_lengthOf_X6_root_86 C) (As := [.long (10000 * r10)]) rfl hl (rest := [.int x4]) rfl (Nat.le_of_ble_eq_true rfl) (st2 := [.int r11, .int x4]) rfl dX6_lengthOf_45 ⟨Nat.le_of_ble_eq_true rfl, Nat.le_of_ble_eq_true rfl⟩ (fun H locs X => ?_)
      clear hcl
      refine lv_iadd hx hb dX6_lengthOf_48 ?_
      refine lv_istore_n (lv' := [(3, .int (x4 + r11)), (5, .int r9), (0, .ref (a 0)), (1, .int c2), (2, .int c3), (4, .int x5)]) hx hb dX6_lengthOf_49 rfl hl (by decide) rfl (fun ls hl => ?_)
      refine lv_iload hx hb dX6_lengthOf_50 (lv_at hl 1 rfl) ?_
      refine lv_istore (lv' := [(4, .int r9), (3, .int (x4 + r11)), (5, .int r9), (0, .ref (a 0)), (1, .int c2), (2, .int c3)]) hx hb dX6_lengthOf_52 hl (by decide) rfl (fun ls hl => ?_)
      refine lv_goto (tgt := 11) hx hb dX6_lengthOf_54 (by decide) ?_
      cases sm hm
      exact ih _ _ hm2 _ _ _ X (lv_sub hl [3, 4, 5, 1, 0] rfl)
noncomputable def fX6_lengthOf (p1 : Int32) (u : MS) : Option (Int32) := (fX6_keptOf p1 u).bind fun r1 => (lX6_lengthOf_11 p1 r1 u 0 0).bind fun y12 => some y12
set_option maxRecDepth 100000 in
set_option maxHeartbeats 4000000 in
theorem kX6_lengthOf (l : Launch) (g : kG) (a : Nat → Nat) (p1 : Int32) (u : MS) (o1 : Int32) (hm : fX6_lengthOf p1 u = some o1) : KM l yX6_lengthOf wsX6_lengthOf rX6_lengthOf g [.ref (a 0), .int p1] (wM g a u) (some (.int o1)) (wM g a u) 0 0 := by
  refine KM.of (nL := 6) (by decide) rfl (Nat.le_of_ble_eq_true rfl) ?_
  intro p e s m args below meth c A ls C X hl
  have C : CT g p s m args meth c RX6 cX6_lengthOf 6 (some .int) wsX6_lengthOf A := C
  have hx := C.1
  have hb := C.2.1
  have hl : lv_has ls 6 [(0, .ref (a 0)), (1, .int p1)] := hl
  rw [fX6_lengthOf] at hm
  refine lv_aload_n hx hb dX6_lengthOf_0 rfl (lv_at hl 0 rfl) ?_
  refine lv_iload_n hx hb dX6_lengthOf_1 rfl (lv_at hl 1 rfl) ?_
  obtain ⟨r1, hcl, hm⟩ := bnd hm
  refine kVW C X (kX6_keptOf l g a p1 u r1 hcl) (cw_X6_lengthOf_X6_keptOf_160 C) 0 (ci := 6) rfl rfl (As := [.int p1]) rfl hl (rest := []) rfl (Nat.le_of_ble_eq_true rfl) (st2 := [.int r1]) rfl dX6_lengthOf_2 ⟨Nat.le_of_ble_eq_true rfl, Nat.le_of_ble_eq_true rfl⟩ (fun H locs X => ?_)
  clear hcl
  refine lv_istore_n (lv' := [(2, .int r1), (0, .ref (a 0)), (1, .int p1)]) hx hb dX6_lengthOf_5 rfl hl (by decide) rfl (fun ls hl => ?_)
  refine lv_iconst (v := 0) hx hb dX6_lengthOf_6 (by decide) ?_
  refine lv_istore_n (lv' := [(3, .int 0), (2, .int r1), (0, .ref (a 0)), (1, .int p1)]) hx hb dX6_lengthOf_7 rfl hl (by decide) rfl (fun ls hl => ?_)
  refine lv_iconst (v := 0) hx hb dX6_lengthOf_8 (by decide) ?_
  refine lv_istore (lv' := [(4, .int 0), (3, .int 0), (2, .int r1), (0, .ref (a 0)), (1, .int p1)]) hx hb dX6_lengthOf_9 hl (by decide) rfl (fun ls hl => ?_)
  obtain ⟨y12, hL, hm⟩ := bnd hm
  obtain ⟨nn, hn⟩ := lp_run hL
  refine tX6_lengthOf_11 a C p1 r1 u y12 (fun H locs ls X hl => ?_) nn _ _ hn _ _ _ X (lv_sub hl [3, 4, 2, 1, 0] rfl)
  clear hL hn
  refine lv_iload_n hx hb dX6_lengthOf_57 rfl (lv_at hl 0 rfl) ?_
  cases sm hm
  exact kiret C X dX6_lengthOf_58
-- X6 BrushStrokesModel.greatestStray(I)I
abbrev rX6_greatestStray : Room := { frames := 5, cells := 0, slots := 0, locals := 133 }
theorem cw_X6_greatestStray_X6_stray_192 {p : Program} {s : State} {m : MethodId} {args : Array Value} {meth : Method} {c : Code} {g : kG} {A : Nat → Prop} (C : CT g p s m args meth c RX6 cX6_greatestStray 5 (some .int) wsX6_greatestStray A) : CallW rX6_greatestStray s args RX6 RX6 192 yX6_stray cX6_stray 4 (some .int) wsX6_stray rX6_stray 0 0 2 := cwV 2 C.2.2.2.2.2.1 gX6_greatestStray_X6_stray rfl rfl rfl (by decide +kernel) ⟨Nat.le_of_ble_eq_true rfl, Nat.le_of_ble_eq_true rfl⟩
theorem cw_X6_greatestStray_X6_points_47 {p : Program} {s : State} {m : MethodId} {args : Array Value} {meth : Method} {c : Code} {g : kG} {A : Nat → Prop} (C : CT g p s m args meth c RX6 cX6_greatestStray 5 (some .int) wsX6_greatestStray A) : CallW rX6_greatestStray s args RX6 RX6 47 yX6_points cX6_points 2 (some .int) wsX6_points rX6_points 0 0 1 := cwV 1 C.2.2.2.2.2.1 gX6_greatestStray_X6_points rfl rfl rfl (by decide +kernel) ⟨Nat.le_of_ble_eq_true rfl, Nat.le_of_ble_eq_true rfl⟩
noncomputable def bX6_greatestStray_4 (c1 : Int32) : Int32 × Int32 × MS → Option ((Int32 × Int32 × MS) ⊕ (Int32 × MS))
  | (x2, x3, u4) => (fX6_points c1 u4).bind fun r7 => if r7 ≤ x3 then (some (.inr (x2, u4))) else ((fX6_stray c1 x3 u4).bind fun (r8, u9) => ((if r8 ≤ x2 then (some x2) else (some r8)) : Option (Int32)).bind fun v10 => some (.inl (v10, x3 + 1, u9)))
noncomputable def lX6_greatestStray_4 (c1 : Int32) (x2 : Int32) (x3 : Int32) (u4 : MS) : Option (Int32 × MS) := lp (bX6_greatestStray_4 c1) (x2, x3, u4)
theorem lX6_greatestStray_4_eq (c1 : Int32) (x2 : Int32) (x3 : Int32) (u4 : MS) : lX6_greatestStray_4 c1 x2 x3 u4 = ((fX6_points c1 u4).bind fun r7 => if r7 ≤ x3 then (some (.inr (x2, u4))) else ((fX6_stray c1 x3 u4).bind fun (r8, u9) => ((if r8 ≤ x2 then (some x2) else (some r8)) : Option (Int32)).bind fun v10 => some (.inl (v10, x3 + 1, u9)))).bind fun r => Sum.elim (fun z => lX6_greatestStray_4 c1 z.1 z.2.1 z.2.2) (fun r => some r) r := lp_eq (bX6_greatestStray_4 c1) (x2, x3, u4)
set_option maxRecDepth 100000 in
set_option maxHeartbeats 4000000 in
theorem tX6_greatestStray_4 {p : Program} {l : Launch} {e : Env} {s : State} {m : MethodId} {args : Array Value} {below : List Frame} {meth : Method} {c : Code} {g : kG} {A : Nat → Prop} {Q : State → Prop} (a : Nat → Nat) (C : CT g p s m args meth c RX6 cX6_greatestStray 5 (some .int) wsX6_greatestStray A) (c1 : Int32) (y5 : Int32) (u6 : MS) (kk : ∀ (H : Heap) (locs : List Loc) (ls : Array Slot), ST g A s H locs (wM g a u6) → lv_has ls 5 [(2, .int y5)] → W p l e rX6_greatestStray s m args below meth c H locs 0 0 Q (F0 m 40 ls [])) : ∀ (n : Nat) (x2 : Int32) (x3 : Int32) (u4 : MS), whl (bX6_greatestStray_4 c1) n (x2, x3, u4) = some (y5, u6) → ∀ (H : Heap) (locs : List Loc) (ls : Array Slot), ST g A s H locs (wM g a u4) → lv_has ls 5 [(0, .ref (a 0)), (1, .int c1), (2, .int x2), (3, .int x3)] → W p l e rX6_greatestStray s m args below meth c H locs 0 0 Q (F0 m 4 ls []) := by
  have hx := C.1
  have hb := C.2.1
  intro n
  induction n with
  | zero =>
    intro x2 x3 u4 hm
    cases hm
  | succ n ih =>
    intro x2 x3 u4 hm H locs ls X hl
    rw [whl] at hm
    obtain ⟨q, hq, hm2⟩ := bnd hm
    clear hm
    have hm := hq
    clear hq
    rw [bX6_greatestStray_4] at hm
    refine lv_iload_n hx hb dX6_greatestStray_4 rfl (lv_at hl 3 rfl) ?_
    refine lv_aload_n hx hb dX6_greatestStray_5 rfl (lv_at hl 0 rfl) ?_
    refine lv_iload_n hx hb dX6_greatestStray_6 rfl (lv_at hl 1 rfl) ?_
    obtain ⟨r7, hcl, hm⟩ := bnd hm
    refine kVW C X (kX6_points l g a c1 u4 r7 hcl) (cw_X6_greatestStray_X6_points_47 C) 0 (ci := 6) rfl rfl (As := [.int c1]) rfl hl (rest := [.int x3]) rfl (Nat.le_of_ble_eq_true rfl) (st2 := [.int r7, .int x3]) rfl dX6_greatestStray_7 ⟨Nat.le_of_ble_eq_true rfl, Nat.le_of_ble_eq_true rfl⟩ (fun H locs X => ?_)
    clear hcl
    refine lv_icmp_ge (tgt := 40) hx hb dX6_greatestStray_10 (by decide) (fun hc => ?_) (fun hc => ?_)
    · have hm := ifp hc hm
      cases sm hm
      cases sm hm2
      exact kk _ _ _ X (lv_sub hl [2] rfl)
    · have hm := ifn hc hm
      refine lv_aload_n hx hb dX6_greatestStray_13 rfl (lv_at hl 0 rfl) ?_
      refine lv_iload_n hx hb dX6_greatestStray_14 rfl (lv_at hl 1 rfl) ?_
      refine lv_iload_n hx hb dX6_greatestStray_15 rfl (lv_at hl 3 rfl) ?_
      obtain ⟨⟨r8, u9⟩, hcl, hm⟩ := bnd hm
      refine kVW C X (kX6_stray l g a c1 x3 u4 r8 u9 hcl) (cw_X6_greatestStray_X6_stray_192 C) 0 (ci := 6) rfl rfl (As := [.int c1, .int x3]) rfl hl (rest := []) rfl (Nat.le_of_ble_eq_true rfl) (st2 := [.int r8]) rfl dX6_greatestStray_16 ⟨Nat.le_of_ble_eq_true rfl, Nat.le_of_ble_eq_true rfl⟩ (fun H locs X => ?_)
      clear hcl
      refine lv_istore (lv' := [(4, .int r8), (0, .ref (a 0)), (1, .int c1), (2, .int x2), (3, .int x3)]) hx hb dX6_greatestStray_19 hl (by decide) rfl (fun ls hl => ?_)
      refine lv_iload hx hb dX6_greatestStray_21 (lv_at hl 0 rfl) ?_
      refine lv_iload_n hx hb dX6_greatestStray_23 rfl (lv_at hl 3 rfl) ?_
      obtain ⟨v10, hE, hm⟩ := bnd hm
      have K : ∀ (H : Heap) (locs : List Loc) (ls : Array Slot), ST g A s H locs (wM g a u9) → lv_has ls 5 [(0, .ref (a 0)), (1, .int c1), (3, .int x3)] → W p l e rX6_greatestStray s m args below meth c H locs 0 0 Q (F0 m 33 ls [.int v10]) := by
        intro H locs ls X hl
        clear hE
        refine lv_istore_n (lv' := [(2, .int v10), (0, .ref (a 0)), (1, .int c1), (3, .int x3)]) hx hb dX6_greatestStray_33 rfl hl (by decide) rfl (fun ls hl => ?_)
        refine lv_iinc (v := x3 + 1) (lv' := [(3, .int (x3 + 1)), (2, .int v10), (0, .ref (a 0)), (1, .int c1)]) hx hb dX6_greatestStray_34 hl (k := 3) rfl rfl (by decide) rfl (fun ls hl => ?_)
        refine lv_goto (tgt := 4) hx hb dX6_greatestStray_37 (by decide) ?_
        cases sm hm
        exact ih _ _ _ hm2 _ _ _ X (lv_sub hl [2, 3, 1, 0] rfl)
      clear hm
      have hm := hE
      clear hE
      refine lv_icmp_le (tgt := 32) hx hb dX6_greatestStray_24 (by decide) (fun hc => ?_) (fun hc => ?_)
      · have hm := ifp hc hm
        refine lv_iload_n hx hb dX6_greatestStray_32 rfl (lv_at hl 3 rfl) ?_
        cases sm hm
        exact K _ _ _ X (lv_sub hl [1, 2, 4] rfl)
      · have hm := ifn hc hm
        refine lv_iload hx hb dX6_greatestStray_27 (lv_at hl 0 rfl) ?_
        refine lv_goto (tgt := 33) hx hb dX6_greatestStray_29 (by decide) ?_
        cases sm hm
        exact K _ _ _ X (lv_sub hl [1, 2, 4] rfl)
noncomputable def fX6_greatestStray (p1 : Int32) (u : MS) : Option (Int32 × MS) := (lX6_greatestStray_4 p1 0 0 u).bind fun (y11, u12) => some (y11, u12)
set_option maxRecDepth 100000 in
set_option maxHeartbeats 4000000 in
theorem kX6_greatestStray (l : Launch) (g : kG) (a : Nat → Nat) (p1 : Int32) (u : MS) (o1 : Int32) (o2 : MS) (hm : fX6_greatestStray p1 u = some (o1, o2)) : KM l yX6_greatestStray wsX6_greatestStray rX6_greatestStray g [.ref (a 0), .int p1] (wM g a u) (some (.int o1)) (wM g a o2) 0 0 := by
  refine KM.of (nL := 5) (by decide) rfl (Nat.le_of_ble_eq_true rfl) ?_
  intro p e s m args below meth c A ls C X hl
  have C : CT g p s m args meth c RX6 cX6_greatestStray 5 (some .int) wsX6_greatestStray A := C
  have hx := C.1
  have hb := C.2.1
  have hl : lv_has ls 5 [(0, .ref (a 0)), (1, .int p1)] := hl
  rw [fX6_greatestStray] at hm
  refine lv_iconst (v := 0) hx hb dX6_greatestStray_0 (by decide) ?_
  refine lv_istore_n (lv' := [(2, .int 0), (0, .ref (a 0)), (1, .int p1)]) hx hb dX6_greatestStray_1 rfl hl (by decide) rfl (fun ls hl => ?_)
  refine lv_iconst (v := 0) hx hb dX6_greatestStray_2 (by decide) ?_
  refine lv_istore_n (lv' := [(3, .int 0), (2, .int 0), (0, .ref (a 0)), (1, .int p1)]) hx hb dX6_greatestStray_3 rfl hl (by decide) rfl (fun ls hl => ?_)
  obtain ⟨⟨y11, u12⟩, hL, hm⟩ := bnd hm
  obtain ⟨nn, hn⟩ := lp_run hL
  refine tX6_greatestStray_4 a C p1 y11 u12 (fun H locs ls X hl => ?_) nn _ _ _ hn _ _ _ X (lv_sub hl [2, 3, 1, 0] rfl)
  clear hL hn
  refine lv_iload_n hx hb dX6_greatestStray_40 rfl (lv_at hl 0 rfl) ?_
  cases sm hm
  exact kiret C X dX6_greatestStray_41
-- X6 BrushStrokesModel.firstStray(I)I
abbrev rX6_firstStray : Room := { frames := 6, cells := 0, slots := 0, locals := 157 }
theorem cw_X6_firstStray_X6_points_47 {p : Program} {s : State} {m : MethodId} {args : Array Value} {meth : Method} {c : Code} {g : kG} {A : Nat → Prop} (C : CT g p s m args meth c RX6 cX6_firstStray 5 (some .int) wsX6_firstStray A) : CallW rX6_firstStray s args RX6 RX6 47 yX6_points cX6_points 2 (some .int) wsX6_points rX6_points 0 0 1 := cwV 1 C.2.2.2.2.2.1 gX6_firstStray_X6_points rfl rfl rfl (by decide +kernel) ⟨Nat.le_of_ble_eq_true rfl, Nat.le_of_ble_eq_true rfl⟩
theorem cw_X6_firstStray_X6_greatestStray_195 {p : Program} {s : State} {m : MethodId} {args : Array Value} {meth : Method} {c : Code} {g : kG} {A : Nat → Prop} (C : CT g p s m args meth c RX6 cX6_firstStray 5 (some .int) wsX6_firstStray A) : CallW rX6_firstStray s args RX6 RX6 195 yX6_greatestStray cX6_greatestStray 5 (some .int) wsX6_greatestStray rX6_greatestStray 0 0 1 := cwV 1 C.2.2.2.2.2.1 gX6_firstStray_X6_greatestStray rfl rfl rfl (by decide +kernel) ⟨Nat.le_of_ble_eq_true rfl, Nat.le_of_ble_eq_true rfl⟩
theorem cw_X6_firstStray_X6_stray_192 {p : Program} {s : State} {m : MethodId} {args : Array Value} {meth : Method} {c : Code} {g : kG} {A : Nat → Prop} (C : CT g p s m args meth c RX6 cX6_firstStray 5 (some .int) wsX6_firstStray A) : CallW rX6_firstStray s args RX6 RX6 192 yX6_stray cX6_stray 4 (some .int) wsX6_stray rX6_stray 0 0 2 := cwV 2 C.2.2.2.2.2.1 gX6_firstStray_X6_stray rfl rfl rfl (by decide +kernel) ⟨Nat.le_of_ble_eq_true rfl, Nat.le_of_ble_eq_true rfl⟩
noncomputable def bX6_firstStray_17 (c4 : Int32) (c5 : Int32) : Int32 × Int32 × MS → Option ((Int32 × Int32 × MS) ⊕ (Int32 × MS))
  | (x6, x7, u8) => if x7 < 0 then (some (.inr (x6, u8))) else ((fX6_stray c4 x7 u8).bind fun (r11, u12) => ((if r11 = c5 then (some x7) else (some x6)) : Option (Int32)).bind fun v13 => some (.inl (v13, x7 + (-1), u12)))
noncomputable def lX6_firstStray_17 (c4 : Int32) (c5 : Int32) (x6 : Int32) (x7 : Int32) (u8 : MS) : Option (Int32 × MS) := lp (bX6_firstStray_17 c4 c5) (x6, x7, u8)
theorem lX6_firstStray_17_eq (c4 : Int32) (c5 : Int32) (x6 : Int32) (x7 : Int32) (u8 : MS) : lX6_firstStray_17 c4 c5 x6 x7 u8 = (if x7 < 0 then (some (.inr (x6, u8))) else ((fX6_stray c4 x7 u8).bind fun (r11, u12) => ((if r11 = c5 then (some x7) else (some x6)) : Option (Int32)).bind fun v13 => some (.inl (v13, x7 + (-1), u12)))).bind fun r => Sum.elim (fun z => lX6_firstStray_17 c4 c5 z.1 z.2.1 z.2.2) (fun r => some r) r := lp_eq (bX6_firstStray_17 c4 c5) (x6, x7, u8)
set_option maxRecDepth 100000 in
set_option maxHeartbeats 4000000 in
theorem tX6_firstStray_17 {p : Program} {l : Launch} {e : Env} {s : State} {m : MethodId} {args : Array Value} {below : List Frame} {meth : Method} {c : Code} {g : kG} {A : Nat → Prop} {Q : State → Prop} (a : Nat → Nat) (C : CT g p s m args meth c RX6 cX6_firstStray 5 (some .int) wsX6_firstStray A) (c4 : Int32) (c5 : Int32) (y9 : Int32) (u10 : MS) (kk : ∀ (H : Heap) (locs : List Loc) (ls : Array Slot), ST g A s H locs (wM g a u10) → lv_has ls 5 [(3, .int y9)] → W p l e rX6_firstStray s m args below meth c H locs 0 0 Q (F0 m 46 ls [])) : ∀ (n : Nat) (x6 : Int32) (x7 : Int32) (u8 : MS), whl (bX6_firstStray_17 c4 c5) n (x6, x7, u8) = some (y9, u10) → ∀ (H : Heap) (locs : List Loc) (ls : Array Slot), ST g A s H locs (wM g a u8) → lv_has ls 5 [(0, .ref (a 0)), (1, .int c4), (2, .int c5), (3, .int x6), (4, .int x7)] → W p l e rX6_firstStray s m args below meth c H locs 0 0 Q (F0 m 17 ls []) := by
  have hx := C.1
  have hb := C.2.1
  intro n
  induction n with
  | zero =>
    intro x6 x7 u8 hm
    cases hm
  | succ n ih =>
    intro x6 x7 u8 hm H locs ls X hl
    rw [whl] at hm
    obtain ⟨q, hq, hm2⟩ := bnd hm
    clear hm
    have hm := hq
    clear hq
    rw [bX6_firstStray_17] at hm
    refine lv_iload hx hb dX6_firstStray_17 (lv_at hl 4 rfl) ?_
    refine lv_if_lt (tgt := 46) hx hb dX6_firstStray_19 (by decide) (fun hc => ?_) (fun hc => ?_)
    · have hm := ifp hc hm
      cases sm hm
      cases sm hm2
      exact kk _ _ _ X (lv_sub hl [3] rfl)
    · have hm := ifn hc hm
      refine lv_aload_n hx hb dX6_firstStray_22 rfl (lv_at hl 0 rfl) ?_
      refine lv_iload_n hx hb dX6_firstStray_23 rfl (lv_at hl 1 rfl) ?_
      refine lv_iload hx hb dX6_firstStray_24 (lv_at hl 4 rfl) ?_
      obtain ⟨⟨r11, u12⟩, hcl, hm⟩ := bnd hm
      refine kVW C X (kX6_stray l g a c4 x7 u8 r11 u12 hcl) (cw_X6_firstStray_X6_stray_192 C) 0 (ci := 6) rfl rfl (As := [.int c4, .int x7]) rfl hl (rest := []) rfl (Nat.le_of_ble_eq_true rfl) (st2 := [.int r11]) rfl dX6_firstStray_26 ⟨Nat.le_of_ble_eq_true rfl, Nat.le_of_ble_eq_true rfl⟩ (fun H locs X => ?_)
      clear hcl
      refine lv_iload_n hx hb dX6_firstStray_29 rfl (lv_at hl 2 rfl) ?_
      obtain ⟨v13, hE, hm⟩ := bnd hm
      have K : ∀ (H : Heap) (locs : List Loc) (ls : Array Slot), ST g A s H locs (wM g a u12) → lv_has ls 5 [(0, .ref (a 0)), (1, .int c4), (2, .int c5), (4, .int x7)] → W p l e rX6_firstStray s m args below meth c H locs 0 0 Q (F0 m 39 ls [.int v13]) := by
        intro H locs ls X hl
        clear hE
        refine lv_istore_n (lv' := [(3, .int v13), (0, .ref (a 0)), (1, .int c4), (2, .int c5), (4, .int x7)]) hx hb dX6_firstStray_39 rfl hl (by decide) rfl (fun ls hl => ?_)
        refine lv_iinc (v := x7 + (-1)) (lv' := [(4, .int (x7 + (-1))), (3, .int v13), (0, .ref (a 0)), (1, .int c4), (2, .int c5)]) hx hb dX6_firstStray_40 hl (k := 4) rfl rfl (by decide) rfl (fun ls hl => ?_)
        refine lv_goto (tgt := 17) hx hb dX6_firstStray_43 (by decide) ?_
        cases sm hm
        exact ih _ _ _ hm2 _ _ _ X (lv_sub hl [2, 3, 4, 1, 0] rfl)
      clear hm
      have hm := hE
      clear hE
      refine lv_icmp_ne (tgt := 38) hx hb dX6_firstStray_30 (by decide) (fun hc => ?_) (fun hc => ?_)
      · have hm := ifn hc hm
        refine lv_iload_n hx hb dX6_firstStray_38 rfl (lv_at hl 3 rfl) ?_
        cases sm hm
        exact K _ _ _ X (lv_sub hl [0, 1, 2, 4] rfl)
      · have hm := ifp hc hm
        refine lv_iload hx hb dX6_firstStray_33 (lv_at hl 4 rfl) ?_
        refine lv_goto (tgt := 39) hx hb dX6_firstStray_35 (by decide) ?_
        cases sm hm
        exact K _ _ _ X (lv_sub hl [0, 1, 2, 4] rfl)
noncomputable def fX6_firstStray (p1 : Int32) (u : MS) : Option (Int32 × MS) := (fX6_greatestStray p1 u).bind fun (r1, u2) => (fX6_points p1 u2).bind fun r3 => (lX6_firstStray_17 p1 r1 (-1) (r3 - 1) u2).bind fun (y14, u15) => some (y14, u15)
set_option maxRecDepth 100000 in
set_option maxHeartbeats 4000000 in
theorem kX6_firstStray (l : Launch) (g : kG) (a : Nat → Nat) (p1 : Int32) (u : MS) (o1 : Int32) (o2 : MS) (hm : fX6_firstStray p1 u = some (o1, o2)) : KM l yX6_firstStray wsX6_firstStray rX6_firstStray g [.ref (a 0), .int p1] (wM g a u) (some (.int o1)) (wM g a o2) 0 0 := by
  refine KM.of (nL := 5) (by decide) rfl (Nat.le_of_ble_eq_true rfl) ?_
  intro p e s m args below meth c A ls C X hl
  have C : CT g p s m args meth c RX6 cX6_firstStray 5 (some .int) wsX6_firstStray A := C
  have hx := C.1
  have hb := C.2.1
  have hl : lv_has ls 5 [(0, .ref (a 0)), (1, .int p1)] := hl
  rw [fX6_firstStray] at hm
  refine lv_aload_n hx hb dX6_firstStray_0 rfl (lv_at hl 0 rfl) ?_
  refine lv_iload_n hx hb dX6_firstStray_1 rfl (lv_at hl 1 rfl) ?_
  obtain ⟨⟨r1, u2⟩, hcl, hm⟩ := bnd hm
  refine kVW C X (kX6_greatestStray l g a p1 u r1 u2 hcl) (cw_X6_firstStray_X6_greatestStray_195 C) 0 (ci := 6) rfl rfl (As := [.int p1]) rfl hl (rest := []) rfl (Nat.le_of_ble_eq_true rfl) (st2 := [.int r1]) rfl dX6_firstStray_2 ⟨Nat.le_of_ble_eq_true rfl, Nat.le_of_ble_eq_true rfl⟩ (fun H locs X => ?_)
  clear hcl
  refine lv_istore_n (lv' := [(2, .int r1), (0, .ref (a 0)), (1, .int p1)]) hx hb dX6_firstStray_5 rfl hl (by decide) rfl (fun ls hl => ?_)
  refine lv_iconst (v := (-1)) hx hb dX6_firstStray_6 (by decide) ?_
  refine lv_istore_n (lv' := [(3, .int (-1)), (2, .int r1), (0, .ref (a 0)), (1, .int p1)]) hx hb dX6_firstStray_7 rfl hl (by decide) rfl (fun ls hl => ?_)
  refine lv_aload_n hx hb dX6_firstStray_8 rfl (lv_at hl 2 rfl) ?_
  refine lv_iload_n hx hb dX6_firstStray_9 rfl (lv_at hl 3 rfl) ?_
  obtain ⟨r3, hcl, hm⟩ := bnd hm
  refine kVW C X (kX6_points l g a p1 u2 r3 hcl) (cw_X6_firstStray_X6_points_47 C) 0 (ci := 6) rfl rfl (As := [.int p1]) rfl hl (rest := []) rfl (Nat.le_of_ble_eq_true rfl) (st2 := [.int r3]) rfl dX6_firstStray_10 ⟨Nat.le_of_ble_eq_true rfl, Nat.le_of_ble_eq_true rfl⟩ (fun H locs X => ?_)
  clear hcl
  refine lv_iconst (v := 1) hx hb dX6_firstStray_13 (by decide) ?_
  refine lv_isub hx hb dX6_firstStray_14 ?_
  refine lv_istore (lv' := [(4, .int (r3 - 1)), (3, .int (-1)), (2, .int r1), (0, .ref (a 0)), (1, .int p1)]) hx hb dX6_firstStray_15 hl (by decide) rfl (fun ls hl => ?_)
  obtain ⟨⟨y14, u15⟩, hL, hm⟩ := bnd hm
  obtain ⟨nn, hn⟩ := lp_run hL
  refine tX6_firstStray_17 a C p1 r1 y14 u15 (fun H locs ls X hl => ?_) nn _ _ _ hn _ _ _ X (lv_sub hl [3, 4, 2, 1, 0] rfl)
  clear hL hn
  refine lv_iload_n hx hb dX6_firstStray_46 rfl (lv_at hl 0 rfl) ?_
  cases sm hm
  exact kiret C X dX6_firstStray_47
-- X6 BrushStrokesModel.spread(II)I
abbrev rX6_spread : Room := { frames := 1, cells := 0, slots := 0, locals := 23 }
theorem cw_X6_spread_X6_points_47 {p : Program} {s : State} {m : MethodId} {args : Array Value} {meth : Method} {c : Code} {g : kG} {A : Nat → Prop} (C : CT g p s m args meth c RX6 cX6_spread 7 (some .int) wsX6_spread A) : CallW rX6_spread s args RX6 RX6 47 yX6_points cX6_points 2 (some .int) wsX6_points rX6_points 0 0 1 := cwV 1 C.2.2.2.2.2.1 gX6_spread_X6_points rfl rfl rfl (by decide +kernel) ⟨Nat.le_of_ble_eq_true rfl, Nat.le_of_ble_eq_true rfl⟩
theorem cw_X6_spread_X6_of_65 {p : Program} {s : State} {m : MethodId} {args : Array Value} {meth : Method} {c : Code} {g : kG} {A : Nat → Prop} (C : CT g p s m args meth c RX6 cX6_spread 7 (some .int) wsX6_spread A) : CallW rX6_spread s args RX6 RX6 65 yX6_of cX6_of 4 (some .int) wsX6_of rX6_of 0 0 3 := cwV 3 C.2.2.2.2.2.1 gX6_spread_X6_of rfl rfl rfl (by decide +kernel) ⟨Nat.le_of_ble_eq_true rfl, Nat.le_of_ble_eq_true rfl⟩
noncomputable def bX6_spread_9 (c1 : Int32) (c2 : Int32) (w6 : MS) : Int32 × Int32 × Int32 → Option ((Int32 × Int32 × Int32) ⊕ (Int32 × Int32))
  | (x3, x4, x5) => (fX6_points c1 w6).bind fun r9 => if r9 ≤ x5 then (some (.inr (x3, x4))) else ((fX6_of c1 x5 c2 w6).bind fun r10 => ((if x3 ≤ r10 then (some x3) else (some r10)) : Option (Int32)).bind fun v11 => ((if r10 ≤ x4 then (some x4) else (some r10)) : Option (Int32)).bind fun v12 => some (.inl (v11, v12, x5 + 1)))
noncomputable def lX6_spread_9 (c1 : Int32) (c2 : Int32) (w6 : MS) (x3 : Int32) (x4 : Int32) (x5 : Int32) : Option (Int32 × Int32) := lp (bX6_spread_9 c1 c2 w6) (x3, x4, x5)
theorem lX6_spread_9_eq (c1 : Int32) (c2 : Int32) (w6 : MS) (x3 : Int32) (x4 : Int32) (x5 : Int32) : lX6_spread_9 c1 c2 w6 x3 x4 x5 = ((fX6_points c1 w6).bind fun r9 => if r9 ≤ x5 then (some (.inr (x3, x4))) else ((fX6_of c1 x5 c2 w6).bind fun r10 => ((if x3 ≤ r10 then (some x3) else (some r10)) : Option (Int32)).bind fun v11 => ((if r10 ≤ x4 then (some x4) else (some r10)) : Option (Int32)).bind fun v12 => some (.inl (v11, v12, x5 + 1)))).bind fun r => Sum.elim (fun z => lX6_spread_9 c1 c2 w6 z.1 z.2.1 z.2.2) (fun r => some r) r := lp_eq (bX6_spread_9 c1 c2 w6) (x3, x4, x5)
set_option maxRecDepth 100000 in
set_option maxHeartbeats 4000000 in
theorem tX6_spread_9 {p : Program} {l : Launch} {e : Env} {s : State} {m : MethodId} {args : Array Value} {below : List Frame} {meth : Method} {c : Code} {g : kG} {A : Nat → Prop} {Q : State → Prop} (a : Nat → Nat) (C : CT g p s m args meth c RX6 cX6_spread 7 (some .int) wsX6_spread A) (c1 : Int32) (c2 : Int32) (w6 : MS) (y7 : Int32) (y8 : Int32) (kk : ∀ (H : Heap) (locs : List Loc) (ls : Array Slot), ST g A s H locs (wM g a w6) → lv_has ls 7 [(3, .int y7), (4, .int y8)] → W p l e rX6_spread s m args below meth c H locs 0 0 Q (F0 m 64 ls [])) : ∀ (n : Nat) (x3 : Int32) (x4 : Int32) (x5 : Int32), whl (bX6_spread_9 c1 c2 w6) n (x3, x4, x5) = some (y7, y8) → ∀ (H : Heap) (locs : List Loc) (ls : Array Slot), ST g A s H locs (wM g a w6) → lv_has ls 7 [(0, .ref (a 0)), (1, .int c1), (2, .int c2), (3, .int x3), (4, .int x4), (5, .int x5)] → W p l e rX6_spread s m args below meth c H locs 0 0 Q (F0 m 9 ls []) := by
  have hx := C.1
  have hb := C.2.1
  intro n
  induction n with
  | zero =>
    intro x3 x4 x5 hm
    cases hm
  | succ n ih =>
    intro x3 x4 x5 hm H locs ls X hl
    rw [whl] at hm
    obtain ⟨q, hq, hm2⟩ := bnd hm
    clear hm
    have hm := hq
    clear hq
    rw [bX6_spread_9] at hm
    refine lv_iload hx hb dX6_spread_9 (lv_at hl 5 rfl) ?_
    refine lv_aload_n hx hb dX6_spread_11 rfl (lv_at hl 0 rfl) ?_
    refine lv_iload_n hx hb dX6_spread_12 rfl (lv_at hl 1 rfl) ?_
    obtain ⟨r9, hcl, hm⟩ := bnd hm
    refine kVW C X (kX6_points l g a c1 w6 r9 hcl) (cw_X6_spread_X6_points_47 C) 0 (ci := 6) rfl rfl (As := [.int c1]) rfl hl (rest := [.int x5]) rfl (Nat.le_of_ble_eq_true rfl) (st2 := [.int r9, .int x5]) rfl dX6_spread_13 ⟨Nat.le_of_ble_eq_true rfl, Nat.le_of_ble_eq_true rfl⟩ (fun H locs X => ?_)
    clear hcl
    refine lv_icmp_ge (tgt := 64) hx hb dX6_spread_16 (by decide) (fun hc => ?_) (fun hc => ?_)
    · have hm := ifp hc hm
      cases sm hm
      cases sm hm2
      exact kk _ _ _ X (lv_sub hl [3, 4] rfl)
    · have hm := ifn hc hm
      refine lv_aload_n hx hb dX6_spread_19 rfl (lv_at hl 0 rfl) ?_
      refine lv_iload_n hx hb dX6_spread_20 rfl (lv_at hl 1 rfl) ?_
      refine lv_iload hx hb dX6_spread_21 (lv_at hl 5 rfl) ?_
      refine lv_iload_n hx hb dX6_spread_23 rfl (lv_at hl 2 rfl) ?_
      obtain ⟨r10, hcl, hm⟩ := bnd hm
      refine kVW C X (kX6_of l g a c1 x5 c2 w6 r10 hcl) (cw_X6_spread_X6_of_65 C) 0 (ci := 6) rfl rfl (As := [.int c1, .int x5, .int c2]) rfl hl (rest := []) rfl (Nat.le_of_ble_eq_true rfl) (st2 := [.int r10]) rfl dX6_spread_24 ⟨Nat.le_of_ble_eq_true rfl, Nat.le_of_ble_eq_true rfl⟩ (fun H locs X => ?_)
      clear hcl
      refine lv_istore (lv' := [(6, .int r10), (0, .ref (a 0)), (1, .int c1), (2, .int c2), (3, .int x3), (4, .int x4), (5, .int x5)]) hx hb dX6_spread_27 hl (by decide) rfl (fun ls hl => ?_)
      refine lv_iload hx hb dX6_spread_29 (lv_at hl 0 rfl) ?_
      refine lv_iload_n hx hb dX6_spread_31 rfl (lv_at hl 4 rfl) ?_
      obtain ⟨v11, hE, hm⟩ := bnd hm
      have K : ∀ (H : Heap) (locs : List Loc) (ls : Array Slot), ST g A s H locs (wM g a w6) → lv_has ls 7 [(0, .ref (a 0)), (1, .int c1), (2, .int c2), (4, .int x4), (5, .int x5), (6, .int r10)] → W p l e rX6_spread s m args below meth c H locs 0 0 Q (F0 m 41 ls [.int v11]) := by
        intro H locs ls X hl
        clear hE
        refine lv_istore_n (lv' := [(3, .int v11), (0, .ref (a 0)), (1, .int c1), (2, .int c2), (4, .int x4), (5, .int x5), (6, .int r10)]) hx hb dX6_spread_41 rfl hl (by decide) rfl (fun ls hl => ?_)
        refine lv_iload hx hb dX6_spread_42 (lv_at hl 6 rfl) ?_
        refine lv_iload hx hb dX6_spread_44 (lv_at hl 4 rfl) ?_
        obtain ⟨v12, hE, hm⟩ := bnd hm
        have K : ∀ (H : Heap) (locs : List Loc) (ls : Array Slot), ST g A s H locs (wM g a w6) → lv_has ls 7 [(0, .ref (a 0)), (1, .int c1), (2, .int c2), (3, .int v11), (5, .int x5)] → W p l e rX6_spread s m args below meth c H locs 0 0 Q (F0 m 56 ls [.int v12]) := by
          intro H locs ls X hl
          clear hE
          refine lv_istore (lv' := [(4, .int v12), (0, .ref (a 0)), (1, .int c1), (2, .int c2), (3, .int v11), (5, .int x5)]) hx hb dX6_spread_56 hl (by decide) rfl (fun ls hl => ?_)
          refine lv_iinc (v := x5 + 1) (lv' := [(5, .int (x5 + 1)), (4, .int v12), (0, .ref (a 0)), (1, .int c1), (2, .int c2), (3, .int v11)]) hx hb dX6_spread_58 hl (k := 5) rfl rfl (by decide) rfl (fun ls hl => ?_)
          refine lv_goto (tgt := 9) hx hb dX6_spread_61 (by decide) ?_
          cases sm hm
          exact ih _ _ _ hm2 _ _ _ X (lv_sub hl [2, 3, 4, 5, 1, 0] rfl)
        clear hm
        have hm := hE
        clear hE
        refine lv_icmp_le (tgt := 54) hx hb dX6_spread_46 (by decide) (fun hc => ?_) (fun hc => ?_)
        · have hm := ifp hc hm
          refine lv_iload hx hb dX6_spread_54 (lv_at hl 4 rfl) ?_
          cases sm hm
          exact K _ _ _ X (lv_sub hl [1, 2, 3, 0, 5] rfl)
        · have hm := ifn hc hm
          refine lv_iload hx hb dX6_spread_49 (lv_at hl 6 rfl) ?_
          refine lv_goto (tgt := 56) hx hb dX6_spread_51 (by decide) ?_
          cases sm hm
          exact K _ _ _ X (lv_sub hl [1, 2, 3, 0, 5] rfl)
      clear hm
      have hm := hE
      clear hE
      refine lv_icmp_ge (tgt := 40) hx hb dX6_spread_32 (by decide) (fun hc => ?_) (fun hc => ?_)
      · have hm := ifp hc hm
        refine lv_iload_n hx hb dX6_spread_40 rfl (lv_at hl 4 rfl) ?_
        cases sm hm
        exact K _ _ _ X (lv_sub hl [1, 2, 3, 5, 6, 0] rfl)
      · have hm := ifn hc hm
        refine lv_iload hx hb dX6_spread_35 (lv_at hl 0 rfl) ?_
        refine lv_goto (tgt := 41) hx hb dX6_spread_37 (by decide) ?_
        cases sm hm
        exact K _ _ _ X (lv_sub hl [1, 2, 3, 5, 6, 0] rfl)
noncomputable def fX6_spread (p1 : Int32) (p2 : Int32) (u : MS) : Option (Int32) := (lX6_spread_9 p1 p2 u 99 0 0).bind fun (y13, y14) => some (y14 - y13)
set_option maxRecDepth 100000 in
set_option maxHeartbeats 4000000 in
theorem kX6_spread (l : Launch) (g : kG) (a : Nat → Nat) (p1 : Int32) (p2 : Int32) (u : MS) (o1 : Int32) (hm : fX6_spread p1 p2 u = some o1) : KM l yX6_spread wsX6_spread rX6_spread g [.ref (a 0), .int p1, .int p2] (wM g a u) (some (.int o1)) (wM g a u) 0 0 := by
  refine KM.of (nL := 7) (by decide) rfl (Nat.le_of_ble_eq_true rfl) ?_
  intro p e s m args below meth c A ls C X hl
  have C : CT g p s m args meth c RX6 cX6_spread 7 (some .int) wsX6_spread A := C
  have hx := C.1
  have hb := C.2.1
  have hl : lv_has ls 7 [(0, .ref (a 0)), (1, .int p1), (2, .int p2)] := hl
  rw [fX6_spread] at hm
  refine lv_bipush (v := 99) hx hb dX6_spread_0 (by decide) ?_
  refine lv_istore_n (lv' := [(3, .int 99), (0, .ref (a 0)), (1, .int p1), (2, .int p2)]) hx hb dX6_spread_2 rfl hl (by decide) rfl (fun ls hl => ?_)
  refine lv_iconst (v := 0) hx hb dX6_spread_3 (by decide) ?_
  refine lv_istore (lv' := [(4, .int 0), (3, .int 99), (0, .ref (a 0)), (1, .int p1), (2, .int p2)]) hx hb dX6_spread_4 hl (by decide) rfl (fun ls hl => ?_)
  refine lv_iconst (v := 0) hx hb dX6_spread_6 (by decide) ?_
  refine lv_istore (lv' := [(5, .int 0), (4, .int 0), (3, .int 99), (0, .ref (a 0)), (1, .int p1), (2, .int p2)]) hx hb dX6_spread_7 hl (by decide) rfl (fun ls hl => ?_)
  obtain ⟨⟨y13, y14⟩, hL, hm⟩ := bnd hm
  obtain ⟨nn, hn⟩ := lp_run hL
  refine tX6_spread_9 a C p1 p2 u y13 y14 (fun H locs ls X hl => ?_) nn _ _ _ hn _ _ _ X (lv_sub hl [3, 4, 5, 2, 1, 0] rfl)
  clear hL hn
  refine lv_iload hx hb dX6_spread_64 (lv_at hl 1 rfl) ?_
  refine lv_iload_n hx hb dX6_spread_66 rfl (lv_at hl 0 rfl) ?_
  refine lv_isub hx hb dX6_spread_67 ?_
  cases sm hm
  exact kiret C X dX6_spread_68
-- X6 BrushStrokesModel.joins(I)I
abbrev rX6_joins : Room := { frames := 2, cells := 0, slots := 0, locals := 60 }
theorem fl_X6_joins_7 : (Cond.fieldLink RX6 7 "BrushStrokesModel" "z" "[I") ∈ wsX6_joins := by decide +kernel
theorem in_X6_joins_X6 : ∀ w ∈ u_ws RX6 TX6 16, w ∈ wsX6_joins := by decide +kernel
theorem cw_X6_joins_X6_points_47 {p : Program} {s : State} {m : MethodId} {args : Array Value} {meth : Method} {c : Code} {g : kG} {A : Nat → Prop} (C : CT g p s m args meth c RX6 cX6_joins 5 (some .int) wsX6_joins A) : CallW rX6_joins s args RX6 RX6 47 yX6_points cX6_points 2 (some .int) wsX6_points rX6_points 0 0 1 := cwV 1 C.2.2.2.2.2.1 gX6_joins_X6_points rfl rfl rfl (by decide +kernel) ⟨Nat.le_of_ble_eq_true rfl, Nat.le_of_ble_eq_true rfl⟩
theorem cw_X6_joins_X6_keptOf_160 {p : Program} {s : State} {m : MethodId} {args : Array Value} {meth : Method} {c : Code} {g : kG} {A : Nat → Prop} (C : CT g p s m args meth c RX6 cX6_joins 5 (some .int) wsX6_joins A) : CallW rX6_joins s args RX6 RX6 160 yX6_keptOf cX6_keptOf 2 (some .int) wsX6_keptOf rX6_keptOf 0 0 1 := cwV 1 C.2.2.2.2.2.1 gX6_joins_X6_keptOf rfl rfl rfl (by decide +kernel) ⟨Nat.le_of_ble_eq_true rfl, Nat.le_of_ble_eq_true rfl⟩
theorem cw_X6_joins_X6_has_54 {p : Program} {s : State} {m : MethodId} {args : Array Value} {meth : Method} {c : Code} {g : kG} {A : Nat → Prop} (C : CT g p s m args meth c RX6 cX6_joins 5 (some .int) wsX6_joins A) : CallB rX6_joins s args RX6 54 yX6_has cX6_has 2 (some .boolean) wsX6_has rX6_has 0 0 2 ∧ (Cond.static yX6_has).before args s = true := cwS 2 C.2.2.2.2.2.1 gX6_joins_X6_has rfl rfl rfl (by decide +kernel) ⟨Nat.le_of_ble_eq_true rfl, Nat.le_of_ble_eq_true rfl⟩
theorem cw_X6_joins_X6_ahead_186 {p : Program} {s : State} {m : MethodId} {args : Array Value} {meth : Method} {c : Code} {g : kG} {A : Nat → Prop} (C : CT g p s m args meth c RX6 cX6_joins 5 (some .int) wsX6_joins A) : CallB rX6_joins s args RX6 186 yX6_ahead cX6_ahead 3 (some .int) wsX6_ahead rX6_ahead 0 0 2 ∧ (Cond.static yX6_ahead).before args s = true := cwS 2 C.2.2.2.2.2.1 gX6_joins_X6_ahead rfl rfl rfl (by decide +kernel) ⟨Nat.le_of_ble_eq_true rfl, Nat.le_of_ble_eq_true rfl⟩
theorem cw_X6_joins_X6_behind_101 {p : Program} {s : State} {m : MethodId} {args : Array Value} {meth : Method} {c : Code} {g : kG} {A : Nat → Prop} (C : CT g p s m args meth c RX6 cX6_joins 5 (some .int) wsX6_joins A) : CallB rX6_joins s args RX6 101 yX6_behind cX6_behind 3 (some .int) wsX6_behind rX6_behind 0 0 2 ∧ (Cond.static yX6_behind).before args s = true := cwS 2 C.2.2.2.2.2.1 gX6_joins_X6_behind rfl rfl rfl (by decide +kernel) ⟨Nat.le_of_ble_eq_true rfl, Nat.le_of_ble_eq_true rfl⟩
theorem cw_X6_joins_X6_isSharp_90 {p : Program} {s : State} {m : MethodId} {args : Array Value} {meth : Method} {c : Code} {g : kG} {A : Nat → Prop} (C : CT g p s m args meth c RX6 cX6_joins 5 (some .int) wsX6_joins A) : CallW rX6_joins s args RX6 RX6 90 yX6_isSharp cX6_isSharp 18 (some .boolean) wsX6_isSharp rX6_isSharp 0 0 5 := cwV 5 C.2.2.2.2.2.1 gX6_joins_X6_isSharp rfl rfl rfl (by decide +kernel) ⟨Nat.le_of_ble_eq_true rfl, Nat.le_of_ble_eq_true rfl⟩
noncomputable def bX6_joins_11 (c2 : Int32) (c3 : Int32) (w6 : MS) : Int32 × Int32 → Option ((Int32 × Int32) ⊕ (Int32))
  | (x4, x5) => (fX6_points c2 w6).bind fun r8 => if (r8 - 1) ≤ x5 then (some (.inr x4)) else ((fX6_has c3 x5).bind fun r9 => ((if r9 = 0 then (some 0) else ((fX6_ahead c3 x5).bind fun r14 => (fX6_behind c3 x5).bind fun r15 => gd (inb 300 303) ((fX6_isSharp c2 r14 x5 r15 (M_z w6 (300 : Int32).toNatClampNeg) w6).bind fun r16 => if r16 = 0 then (some 0) else (some 1)))) : Option (Int32)).bind fun v13 => some (.inl (x4 + v13, x5 + 1)))
noncomputable def lX6_joins_11 (c2 : Int32) (c3 : Int32) (w6 : MS) (x4 : Int32) (x5 : Int32) : Option (Int32) := lp (bX6_joins_11 c2 c3 w6) (x4, x5)
theorem lX6_joins_11_eq (c2 : Int32) (c3 : Int32) (w6 : MS) (x4 : Int32) (x5 : Int32) : lX6_joins_11 c2 c3 w6 x4 x5 = ((fX6_points c2 w6).bind fun r8 => if (r8 - 1) ≤ x5 then (some (.inr x4)) else ((fX6_has c3 x5).bind fun r9 => ((if r9 = 0 then (some 0) else ((fX6_ahead c3 x5).bind fun r14 => (fX6_behind c3 x5).bind fun r15 => gd (inb 300 303) ((fX6_isSharp c2 r14 x5 r15 (M_z w6 (300 : Int32).toNatClampNeg) w6).bind fun r16 => if r16 = 0 then (some 0) else (some 1)))) : Option (Int32)).bind fun v13 => some (.inl (x4 + v13, x5 + 1)))).bind fun r => Sum.elim (fun z => lX6_joins_11 c2 c3 w6 z.1 z.2) (fun r => some r) r := lp_eq (bX6_joins_11 c2 c3 w6) (x4, x5)
set_option maxRecDepth 100000 in
set_option maxHeartbeats 4000000 in
theorem tX6_joins_11 {p : Program} {l : Launch} {e : Env} {s : State} {m : MethodId} {args : Array Value} {below : List Frame} {meth : Method} {c : Code} {g : kG} {A : Nat → Prop} {Q : State → Prop} (a : Nat → Nat) (C : CT g p s m args meth c RX6 cX6_joins 5 (some .int) wsX6_joins A) (c2 : Int32) (c3 : Int32) (w6 : MS) (y7 : Int32) (kk : ∀ (H : Heap) (locs : List Loc) (ls : Array Slot), ST g A s H locs (wM g a w6) → lv_has ls 5 [(3, .int y7)] → W p l e rX6_joins s m args below meth c H locs 0 0 Q (F0 m 76 ls [])) : ∀ (n : Nat) (x4 : Int32) (x5 : Int32), whl (bX6_joins_11 c2 c3 w6) n (x4, x5) = some y7 → ∀ (H : Heap) (locs : List Loc) (ls : Array Slot), ST g A s H locs (wM g a w6) → lv_has ls 5 [(0, .ref (a 0)), (1, .int c2), (2, .int c3), (3, .int x4), (4, .int x5)] → W p l e rX6_joins s m args below meth c H locs 0 0 Q (F0 m 11 ls []) := by
  have hx := C.1
  have hb := C.2.1
  have hinX6 := in_X6_joins_X6
  have hf7 := C.2.2.2.2.2.1 _ fl_X6_joins_7
  intro n
  induction n with
  | zero =>
    intro x4 x5 hm
    cases hm
  | succ n ih =>
    intro x4 x5 hm H locs ls X hl
    rw [whl] at hm
    obtain ⟨q, hq, hm2⟩ := bnd hm
    clear hm
    have hm := hq
    clear hq
    rw [bX6_joins_11] at hm
    refine lv_iload hx hb dX6_joins_11 (lv_at hl 4 rfl) ?_
    refine lv_aload_n hx hb dX6_joins_13 rfl (lv_at hl 0 rfl) ?_
    refine lv_iload_n hx hb dX6_joins_14 rfl (lv_at hl 1 rfl) ?_
    obtain ⟨r8, hcl, hm⟩ := bnd hm
    refine kVW C X (kX6_points l g a c2 w6 r8 hcl) (cw_X6_joins_X6_points_47 C) 0 (ci := 6) rfl rfl (As := [.int c2]) rfl hl (rest := [.int x5]) rfl (Nat.le_of_ble_eq_true rfl) (st2 := [.int r8, .int x5]) rfl dX6_joins_15 ⟨Nat.le_of_ble_eq_true rfl, Nat.le_of_ble_eq_true rfl⟩ (fun H locs X => ?_)
    clear hcl
    refine lv_iconst (v := 1) hx hb dX6_joins_18 (by decide) ?_
    refine lv_isub hx hb dX6_joins_19 ?_
    refine lv_icmp_ge (tgt := 76) hx hb dX6_joins_20 (by decide) (fun hc => ?_) (fun hc => ?_)
    · have hm := ifp hc hm
      cases sm hm
      cases sm hm2
      exact kk _ _ _ X (lv_sub hl [3] rfl)
    · have hm := ifn hc hm
      refine lv_iload_n hx hb dX6_joins_23 rfl (lv_at hl 3 rfl) ?_
      refine lv_iload_n hx hb dX6_joins_24 rfl (lv_at hl 2 rfl) ?_
      refine lv_iload hx hb dX6_joins_25 (lv_at hl 4 rfl) ?_
      obtain ⟨r9, hcl, hm⟩ := bnd hm
      refine kS0 C X (kX6_has l g c3 x5 r9 hcl) (cw_X6_joins_X6_has_54 C) (As := [.int c3, .int x5]) rfl hl (rest := [.int x4]) rfl (Nat.le_of_ble_eq_true rfl) (st2 := [.int r9, .int x4]) rfl dX6_joins_27 ⟨Nat.le_of_ble_eq_true rfl, Nat.le_of_ble_eq_true rfl⟩ (fun H locs X => ?_)
      clear hcl
      obtain ⟨v13, hE, hm⟩ := bnd hm
      have K : ∀ (H : Heap) (locs : List Loc) (ls : Array Slot), ST g A s H locs (wM g a w6) → lv_has ls 5 [(0, .ref (a 0)), (1, .int c2), (2, .int c3), (4, .int x5)] → W p l e rX6_joins s m args below meth c H locs 0 0 Q (F0 m 68 ls [.int v13, .int x4]) := by
        intro H locs ls X hl
        clear hE
        refine lv_iadd hx hb dX6_joins_68 ?_
        refine lv_istore_n (lv' := [(3, .int (x4 + v13)), (0, .ref (a 0)), (1, .int c2), (2, .int c3), (4, .int x5)]) hx hb dX6_joins_69 rfl hl (by decide) rfl (fun ls hl => ?_)
        refine lv_iinc (v := x5 + 1) (lv' := [(4, .int (x5 + 1)), (3, .int (x4 + v13)), (0, .ref (a 0)), (1, .int c2), (2, .int c3)]) hx hb dX6_joins_70 hl (k := 4) rfl rfl (by decide) rfl (fun ls hl => ?_)
        refine lv_goto (tgt := 11) hx hb dX6_joins_73 (by decide) ?_
        cases sm hm
        exact ih _ _ hm2 _ _ _ X (lv_sub hl [2, 3, 4, 1, 0] rfl)
      clear hm
      have hm := hE
      clear hE
      refine lv_if_eq (tgt := 67) hx hb dX6_joins_30 (by decide) (fun hc => ?_) (fun hc => ?_)
      · have hm := ifp hc hm
        refine lv_iconst (v := 0) hx hb dX6_joins_67 (by decide) ?_
        cases sm hm
        exact K _ _ _ X (lv_sub hl [0, 1, 2, 4] rfl)
      · have hm := ifn hc hm
        refine lv_aload_n hx hb dX6_joins_33 rfl (lv_at hl 0 rfl) ?_
        refine lv_iload_n hx hb dX6_joins_34 rfl (lv_at hl 1 rfl) ?_
        refine lv_iload_n hx hb dX6_joins_35 rfl (lv_at hl 2 rfl) ?_
        refine lv_iload hx hb dX6_joins_36 (lv_at hl 4 rfl) ?_
        obtain ⟨r14, hcl, hm⟩ := bnd hm
        refine kS0 C X (kX6_ahead l g c3 x5 r14 hcl) (cw_X6_joins_X6_ahead_186 C) (As := [.int c3, .int x5]) rfl hl (rest := [.int c2, .ref (a 0), .int x4]) rfl (Nat.le_of_ble_eq_true rfl) (st2 := [.int r14, .int c2, .ref (a 0), .int x4]) rfl dX6_joins_38 ⟨Nat.le_of_ble_eq_true rfl, Nat.le_of_ble_eq_true rfl⟩ (fun H locs X => ?_)
        clear hcl
        refine lv_iload hx hb dX6_joins_41 (lv_at hl 4 rfl) ?_
        refine lv_iload_n hx hb dX6_joins_43 rfl (lv_at hl 2 rfl) ?_
        refine lv_iload hx hb dX6_joins_44 (lv_at hl 4 rfl) ?_
        obtain ⟨r15, hcl, hm⟩ := bnd hm
        refine kS0 C X (kX6_behind l g c3 x5 r15 hcl) (cw_X6_joins_X6_behind_101 C) (As := [.int c3, .int x5]) rfl hl (rest := [.int x5, .int r14, .int c2, .ref (a 0), .int x4]) rfl (Nat.le_of_ble_eq_true rfl) (st2 := [.int r15, .int x5, .int r14, .int c2, .ref (a 0), .int x4]) rfl dX6_joins_46 ⟨Nat.le_of_ble_eq_true rfl, Nat.le_of_ble_eq_true rfl⟩ (fun H locs X => ?_)
        clear hcl
        refine lv_aload_n hx hb dX6_joins_49 rfl (lv_at hl 0 rfl) ?_
        refine kget C X 0 (ci := 6) rfl rfl hinX6 1 (by decide) hf7 (v := .ref (a 1)) rfl dX6_joins_50 ?_
        refine lv_sipush (v := 300) hx hb dX6_joins_53 (by decide) ?_
        obtain ⟨hgi, hm⟩ := gd_t hm
        refine kiald C X 1 rfl hgi dX6_joins_56 ?_
        obtain ⟨r16, hcl, hm⟩ := bnd hm
        refine kVW C X (kX6_isSharp l g a c2 r14 x5 r15 (M_z w6 (300 : Int32).toNatClampNeg) w6 r16 hcl) (cw_X6_joins_X6_isSharp_90 C) 0 (ci := 6) rfl rfl (As := [.int c2, .int r14, .int x5, .int r15, .int (M_z w6 (300 : Int32).toNatClampNeg)]) rfl hl (rest := [.int x4]) rfl (Nat.le_of_ble_eq_true rfl) (st2 := [.int r16, .int x4]) rfl dX6_joins_57 ⟨Nat.le_of_ble_eq_true rfl, Nat.le_of_ble_eq_true rfl⟩ (fun H locs X => ?_)
        clear hcl
        refine lv_if_eq (tgt := 67) hx hb dX6_joins_60 (by decide) (fun hc => ?_) (fun hc => ?_)
        · have hm := ifp hc hm
          refine lv_iconst (v := 0) hx hb dX6_joins_67 (by decide) ?_
          cases sm hm
          exact K _ _ _ X (lv_sub hl [0, 1, 2, 4] rfl)
        · have hm := ifn hc hm
          refine lv_iconst (v := 1) hx hb dX6_joins_63 (by decide) ?_
          refine lv_goto (tgt := 68) hx hb dX6_joins_64 (by decide) ?_
          cases sm hm
          exact K _ _ _ X (lv_sub hl [0, 1, 2, 4] rfl)
noncomputable def fX6_joins (p1 : Int32) (u : MS) : Option (Int32) := (fX6_keptOf p1 u).bind fun r1 => (lX6_joins_11 p1 r1 u 0 1).bind fun y17 => some y17
set_option maxRecDepth 100000 in
set_option maxHeartbeats 4000000 in
theorem kX6_joins (l : Launch) (g : kG) (a : Nat → Nat) (p1 : Int32) (u : MS) (o1 : Int32) (hm : fX6_joins p1 u = some o1) : KM l yX6_joins wsX6_joins rX6_joins g [.ref (a 0), .int p1] (wM g a u) (some (.int o1)) (wM g a u) 0 0 := by
  refine KM.of (nL := 5) (by decide) rfl (Nat.le_of_ble_eq_true rfl) ?_
  intro p e s m args below meth c A ls C X hl
  have C : CT g p s m args meth c RX6 cX6_joins 5 (some .int) wsX6_joins A := C
  have hx := C.1
  have hb := C.2.1
  have hl : lv_has ls 5 [(0, .ref (a 0)), (1, .int p1)] := hl
  rw [fX6_joins] at hm
  refine lv_aload_n hx hb dX6_joins_0 rfl (lv_at hl 0 rfl) ?_
  refine lv_iload_n hx hb dX6_joins_1 rfl (lv_at hl 1 rfl) ?_
  obtain ⟨r1, hcl, hm⟩ := bnd hm
  refine kVW C X (kX6_keptOf l g a p1 u r1 hcl) (cw_X6_joins_X6_keptOf_160 C) 0 (ci := 6) rfl rfl (As := [.int p1]) rfl hl (rest := []) rfl (Nat.le_of_ble_eq_true rfl) (st2 := [.int r1]) rfl dX6_joins_2 ⟨Nat.le_of_ble_eq_true rfl, Nat.le_of_ble_eq_true rfl⟩ (fun H locs X => ?_)
  clear hcl
  refine lv_istore_n (lv' := [(2, .int r1), (0, .ref (a 0)), (1, .int p1)]) hx hb dX6_joins_5 rfl hl (by decide) rfl (fun ls hl => ?_)
  refine lv_iconst (v := 0) hx hb dX6_joins_6 (by decide) ?_
  refine lv_istore_n (lv' := [(3, .int 0), (2, .int r1), (0, .ref (a 0)), (1, .int p1)]) hx hb dX6_joins_7 rfl hl (by decide) rfl (fun ls hl => ?_)
  refine lv_iconst (v := 1) hx hb dX6_joins_8 (by decide) ?_
  refine lv_istore (lv' := [(4, .int 1), (3, .int 0), (2, .int r1), (0, .ref (a 0)), (1, .int p1)]) hx hb dX6_joins_9 hl (by decide) rfl (fun ls hl => ?_)
  obtain ⟨y17, hL, hm⟩ := bnd hm
  obtain ⟨nn, hn⟩ := lp_run hL
  refine tX6_joins_11 a C p1 r1 u y17 (fun H locs ls X hl => ?_) nn _ _ hn _ _ _ X (lv_sub hl [3, 4, 2, 1, 0] rfl)
  clear hL hn
  refine lv_iload_n hx hb dX6_joins_76 rfl (lv_at hl 0 rfl) ?_
  cases sm hm
  exact kiret C X dX6_joins_77
-- X6 BrushStrokesModel.strokeOf(II)I
abbrev rX6_strokeOf : Room := { frames := 7, cells := 0, slots := 0, locals := 181 }
theorem fl_X6_strokeOf_35 : (Cond.fieldLink RX6 35 "BrushStrokesModel" "thrown" "I") ∈ wsX6_strokeOf := by decide +kernel
theorem in_X6_strokeOf_X6 : ∀ w ∈ u_ws RX6 TX6 16, w ∈ wsX6_strokeOf := by decide +kernel
theorem cw_X6_strokeOf_X6_keptOf_160 {p : Program} {s : State} {m : MethodId} {args : Array Value} {meth : Method} {c : Code} {g : kG} {A : Nat → Prop} (C : CT g p s m args meth c RX6 cX6_strokeOf 3 (some .int) wsX6_strokeOf A) : CallW rX6_strokeOf s args RX6 RX6 160 yX6_keptOf cX6_keptOf 2 (some .int) wsX6_keptOf rX6_keptOf 0 0 1 := cwV 1 C.2.2.2.2.2.1 gX6_strokeOf_X6_keptOf rfl rfl rfl (by decide +kernel) ⟨Nat.le_of_ble_eq_true rfl, Nat.le_of_ble_eq_true rfl⟩
theorem cw_X6_strokeOf_X6_ones_157 {p : Program} {s : State} {m : MethodId} {args : Array Value} {meth : Method} {c : Code} {g : kG} {A : Nat → Prop} (C : CT g p s m args meth c RX6 cX6_strokeOf 3 (some .int) wsX6_strokeOf A) : CallB rX6_strokeOf s args RX6 157 yX6_ones cX6_ones 3 (some .int) wsX6_ones rX6_ones 0 0 1 ∧ (Cond.static yX6_ones).before args s = true := cwS 1 C.2.2.2.2.2.1 gX6_strokeOf_X6_ones rfl rfl rfl (by decide +kernel) ⟨Nat.le_of_ble_eq_true rfl, Nat.le_of_ble_eq_true rfl⟩
theorem cw_X6_strokeOf_X6_fixedMany_198 {p : Program} {s : State} {m : MethodId} {args : Array Value} {meth : Method} {c : Code} {g : kG} {A : Nat → Prop} (C : CT g p s m args meth c RX6 cX6_strokeOf 3 (some .int) wsX6_strokeOf A) : CallW rX6_strokeOf s args RX6 RX6 198 yX6_fixedMany cX6_fixedMany 5 (some .int) wsX6_fixedMany rX6_fixedMany 0 0 2 := cwV 2 C.2.2.2.2.2.1 gX6_strokeOf_X6_fixedMany rfl rfl rfl (by decide +kernel) ⟨Nat.le_of_ble_eq_true rfl, Nat.le_of_ble_eq_true rfl⟩
theorem cw_X6_strokeOf_X6_lengthOf_201 {p : Program} {s : State} {m : MethodId} {args : Array Value} {meth : Method} {c : Code} {g : kG} {A : Nat → Prop} (C : CT g p s m args meth c RX6 cX6_strokeOf 3 (some .int) wsX6_strokeOf A) : CallW rX6_strokeOf s args RX6 RX6 201 yX6_lengthOf cX6_lengthOf 6 (some .int) wsX6_lengthOf rX6_lengthOf 0 0 1 := cwV 1 C.2.2.2.2.2.1 gX6_strokeOf_X6_lengthOf rfl rfl rfl (by decide +kernel) ⟨Nat.le_of_ble_eq_true rfl, Nat.le_of_ble_eq_true rfl⟩
theorem cw_X6_strokeOf_X6_greatestStray_195 {p : Program} {s : State} {m : MethodId} {args : Array Value} {meth : Method} {c : Code} {g : kG} {A : Nat → Prop} (C : CT g p s m args meth c RX6 cX6_strokeOf 3 (some .int) wsX6_strokeOf A) : CallW rX6_strokeOf s args RX6 RX6 195 yX6_greatestStray cX6_greatestStray 5 (some .int) wsX6_greatestStray rX6_greatestStray 0 0 1 := cwV 1 C.2.2.2.2.2.1 gX6_strokeOf_X6_greatestStray rfl rfl rfl (by decide +kernel) ⟨Nat.le_of_ble_eq_true rfl, Nat.le_of_ble_eq_true rfl⟩
theorem cw_X6_strokeOf_X6_firstStray_204 {p : Program} {s : State} {m : MethodId} {args : Array Value} {meth : Method} {c : Code} {g : kG} {A : Nat → Prop} (C : CT g p s m args meth c RX6 cX6_strokeOf 3 (some .int) wsX6_strokeOf A) : CallW rX6_strokeOf s args RX6 RX6 204 yX6_firstStray cX6_firstStray 5 (some .int) wsX6_firstStray rX6_firstStray 0 0 1 := cwV 1 C.2.2.2.2.2.1 gX6_strokeOf_X6_firstStray rfl rfl rfl (by decide +kernel) ⟨Nat.le_of_ble_eq_true rfl, Nat.le_of_ble_eq_true rfl⟩
theorem cw_X6_strokeOf_X6_spread_207 {p : Program} {s : State} {m : MethodId} {args : Array Value} {meth : Method} {c : Code} {g : kG} {A : Nat → Prop} (C : CT g p s m args meth c RX6 cX6_strokeOf 3 (some .int) wsX6_strokeOf A) : CallW rX6_strokeOf s args RX6 RX6 207 yX6_spread cX6_spread 7 (some .int) wsX6_spread rX6_spread 0 0 2 := cwV 2 C.2.2.2.2.2.1 gX6_strokeOf_X6_spread rfl rfl rfl (by decide +kernel) ⟨Nat.le_of_ble_eq_true rfl, Nat.le_of_ble_eq_true rfl⟩
theorem cw_X6_strokeOf_X6_joins_210 {p : Program} {s : State} {m : MethodId} {args : Array Value} {meth : Method} {c : Code} {g : kG} {A : Nat → Prop} (C : CT g p s m args meth c RX6 cX6_strokeOf 3 (some .int) wsX6_strokeOf A) : CallW rX6_strokeOf s args RX6 RX6 210 yX6_joins cX6_joins 5 (some .int) wsX6_joins rX6_joins 0 0 1 := cwV 1 C.2.2.2.2.2.1 gX6_strokeOf_X6_joins rfl rfl rfl (by decide +kernel) ⟨Nat.le_of_ble_eq_true rfl, Nat.le_of_ble_eq_true rfl⟩
theorem cw_X6_strokeOf_X6_in_39 {p : Program} {s : State} {m : MethodId} {args : Array Value} {meth : Method} {c : Code} {g : kG} {A : Nat → Prop} (C : CT g p s m args meth c RX6 cX6_strokeOf 3 (some .int) wsX6_strokeOf A) : CallB rX6_strokeOf s args RX6 39 yX6_in cX6_in 3 (some .boolean) wsX6_in rX6_in 0 0 3 ∧ (Cond.static yX6_in).before args s = true := cwS 3 C.2.2.2.2.2.1 gX6_strokeOf_X6_in rfl rfl rfl (by decide +kernel) ⟨Nat.le_of_ble_eq_true rfl, Nat.le_of_ble_eq_true rfl⟩
theorem cw_X6_strokeOf_X6_isStroke_43 {p : Program} {s : State} {m : MethodId} {args : Array Value} {meth : Method} {c : Code} {g : kG} {A : Nat → Prop} (C : CT g p s m args meth c RX6 cX6_strokeOf 3 (some .int) wsX6_strokeOf A) : CallW rX6_strokeOf s args RX6 RX6 43 yX6_isStroke cX6_isStroke 2 (some .boolean) wsX6_isStroke rX6_isStroke 0 0 1 := cwV 1 C.2.2.2.2.2.1 gX6_strokeOf_X6_isStroke rfl rfl rfl (by decide +kernel) ⟨Nat.le_of_ble_eq_true rfl, Nat.le_of_ble_eq_true rfl⟩
theorem cw_X6_strokeOf_X6_points_47 {p : Program} {s : State} {m : MethodId} {args : Array Value} {meth : Method} {c : Code} {g : kG} {A : Nat → Prop} (C : CT g p s m args meth c RX6 cX6_strokeOf 3 (some .int) wsX6_strokeOf A) : CallW rX6_strokeOf s args RX6 RX6 47 yX6_points cX6_points 2 (some .int) wsX6_points rX6_points 0 0 1 := cwV 1 C.2.2.2.2.2.1 gX6_strokeOf_X6_points rfl rfl rfl (by decide +kernel) ⟨Nat.le_of_ble_eq_true rfl, Nat.le_of_ble_eq_true rfl⟩
noncomputable def fX6_strokeOf (p1 : Int32) (p2 : Int32) (u : MS) : Option (Int32 × MS) := (fX6_isStroke p1 u).bind fun r1 => ((if r1 = 0 then (some 1) else ((fX6_in p2 0 10).bind fun r4 => if r4 = 0 then (some 2) else (some 0))) : Option (Int32)).bind fun v3 => lt (M_s_thrown u v3) fun u5 => if (M_thrown u5) ≤ 0 then (if p2 = 0 then ((fX6_points p1 u5).bind fun r6 => some (r6, u5)) else (if p2 = 1 then ((fX6_keptOf p1 u5).bind fun r7 => (fX6_ones r7).bind fun r8 => some (r8, u5)) else (if p2 = 2 then ((fX6_fixedMany p1 2 u5).bind fun r9 => some (r9, u5)) else (if p2 = 3 then ((fX6_fixedMany p1 4 u5).bind fun r10 => some (r10, u5)) else (if p2 = 4 then ((fX6_lengthOf p1 u5).bind fun r11 => some (r11, u5)) else (if p2 = 5 then ((fX6_greatestStray p1 u5).bind fun (r12, u13) => some (r12, u13)) else (if p2 = 6 then ((fX6_firstStray p1 u5).bind fun (r14, u15) => some (r14, u15)) else (if p2 = 7 then ((fX6_spread p1 0 u5).bind fun r16 => some (r16, u5)) else (if p2 = 8 then ((fX6_spread p1 1 u5).bind fun r17 => some (r17, u5)) else (if p2 = 9 then ((fX6_joins p1 u5).bind fun r18 => some (r18, u5)) else ((fX6_keptOf p1 u5).bind fun r19 => some (r19, u5)))))))))))) else (some (0, u5))
set_option maxRecDepth 100000 in
set_option maxHeartbeats 4000000 in
theorem kX6_strokeOf (l : Launch) (g : kG) (a : Nat → Nat) (p1 : Int32) (p2 : Int32) (u : MS) (o1 : Int32) (o2 : MS) (hm : fX6_strokeOf p1 p2 u = some (o1, o2)) : KM l yX6_strokeOf wsX6_strokeOf rX6_strokeOf g [.ref (a 0), .int p1, .int p2] (wM g a u) (some (.int o1)) (wM g a o2) 0 0 := by
  refine KM.of (nL := 3) (by decide) rfl (Nat.le_of_ble_eq_true rfl) ?_
  intro p e s m args below meth c A ls C X hl
  have C : CT g p s m args meth c RX6 cX6_strokeOf 3 (some .int) wsX6_strokeOf A := C
  have hx := C.1
  have hb := C.2.1
  have hl : lv_has ls 3 [(0, .ref (a 0)), (1, .int p1), (2, .int p2)] := hl
  have hinX6 := in_X6_strokeOf_X6
  have hf35 := C.2.2.2.2.2.1 _ fl_X6_strokeOf_35
  rw [fX6_strokeOf] at hm
  refine lv_aload_n hx hb dX6_strokeOf_0 rfl (lv_at hl 0 rfl) ?_
  refine lv_aload_n hx hb dX6_strokeOf_1 rfl (lv_at hl 0 rfl) ?_
  refine lv_iload_n hx hb dX6_strokeOf_2 rfl (lv_at hl 1 rfl) ?_
  obtain ⟨r1, hcl, hm⟩ := bnd hm
  refine kVW C X (kX6_isStroke l g a p1 u r1 hcl) (cw_X6_strokeOf_X6_isStroke_43 C) 0 (ci := 6) rfl rfl (As := [.int p1]) rfl hl (rest := [.ref (a 0)]) rfl (Nat.le_of_ble_eq_true rfl) (st2 := [.int r1, .ref (a 0)]) rfl dX6_strokeOf_3 ⟨Nat.le_of_ble_eq_true rfl, Nat.le_of_ble_eq_true rfl⟩ (fun H locs X => ?_)
  clear hcl
  obtain ⟨v3, hE, hm⟩ := bnd hm
  have K : ∀ (H : Heap) (locs : List Loc) (ls : Array Slot), ST g A s H locs (wM g a u) → lv_has ls 3 [(0, .ref (a 0)), (1, .int p1), (2, .int p2)] → W p l e rX6_strokeOf s m args below meth c H locs 0 0 (kEnd g below args s (some (.int o1)) (wM g a o2) A 0 0) (F0 m 28 ls [.int v3, .ref (a 0)]) := by
    intro H locs ls X hl
    clear hE
    obtain ⟨u5, eu⟩ : ∃ z, z = M_s_thrown u v3 := ⟨_, rfl⟩
    have hm := lt_t eu hm
    refine kput C X 0 (ci := 6) rfl rfl hinX6 tyX6_ok nmX6 0 (by decide) hf35 rfl (ty := .int) (v := .int v3) rfl rfl rfl (Nat.le_of_ble_eq_true rfl) (w2 := wM g a u5) (by subst eu; rfl) dX6_strokeOf_28 (fun H locs X => ?_)
    clear eu
    refine lv_aload_n hx hb dX6_strokeOf_31 rfl (lv_at hl 0 rfl) ?_
    refine kget C X 0 (ci := 6) rfl rfl hinX6 0 (by decide) hf35 (v := .int (M_thrown u5)) rfl dX6_strokeOf_32 ?_
    refine lv_if_le (tgt := 40) hx hb dX6_strokeOf_35 (by decide) (fun hc => ?_) (fun hc => ?_)
    · have hm := ifp hc hm
      refine lv_iload_n hx hb dX6_strokeOf_40 rfl (lv_at hl 2 rfl) ?_
      by_cases hc0 : p2 = 0
      · have hm := ifp hc0 hm
        refine lv_tableIn (off := 55) (tgt := 96) hx hb dX6_strokeOf_41 (by rw [hc0]; decide) (by rw [hc0]; decide) (by rw [hc0]; rfl) (by decide) ?_
        refine lv_aload_n hx hb dX6_strokeOf_96 rfl (lv_at hl 0 rfl) ?_
        refine lv_iload_n hx hb dX6_strokeOf_97 rfl (lv_at hl 1 rfl) ?_
        obtain ⟨r6, hcl, hm⟩ := bnd hm
        refine kVW C X (kX6_points l g a p1 u5 r6 hcl) (cw_X6_strokeOf_X6_points_47 C) 0 (ci := 6) rfl rfl (As := [.int p1]) rfl hl (rest := []) rfl (Nat.le_of_ble_eq_true rfl) (st2 := [.int r6]) rfl dX6_strokeOf_98 ⟨Nat.le_of_ble_eq_true rfl, Nat.le_of_ble_eq_true rfl⟩ (fun H locs X => ?_)
        clear hcl
        cases sm hm
        exact kiret C X dX6_strokeOf_101
      · have hm := ifn hc0 hm
        by_cases hc1 : p2 = 1
        · have hm := ifp hc1 hm
          refine lv_tableIn (off := 61) (tgt := 102) hx hb dX6_strokeOf_41 (by rw [hc1]; decide) (by rw [hc1]; decide) (by rw [hc1]; rfl) (by decide) ?_
          refine lv_aload_n hx hb dX6_strokeOf_102 rfl (lv_at hl 0 rfl) ?_
          refine lv_iload_n hx hb dX6_strokeOf_103 rfl (lv_at hl 1 rfl) ?_
          obtain ⟨r7, hcl, hm⟩ := bnd hm
          refine kVW C X (kX6_keptOf l g a p1 u5 r7 hcl) (cw_X6_strokeOf_X6_keptOf_160 C) 0 (ci := 6) rfl rfl (As := [.int p1]) rfl hl (rest := []) rfl (Nat.le_of_ble_eq_true rfl) (st2 := [.int r7]) rfl dX6_strokeOf_104 ⟨Nat.le_of_ble_eq_true rfl, Nat.le_of_ble_eq_true rfl⟩ (fun H locs X => ?_)
          clear hcl
          obtain ⟨r8, hcl, hm⟩ := bnd hm
          refine kS0 C X (kX6_ones l g r7 r8 hcl) (cw_X6_strokeOf_X6_ones_157 C) (As := [.int r7]) rfl hl (rest := []) rfl (Nat.le_of_ble_eq_true rfl) (st2 := [.int r8]) rfl dX6_strokeOf_107 ⟨Nat.le_of_ble_eq_true rfl, Nat.le_of_ble_eq_true rfl⟩ (fun H locs X => ?_)
          clear hcl
          cases sm hm
          exact kiret C X dX6_strokeOf_110
        · have hm := ifn hc1 hm
          by_cases hc2 : p2 = 2
          · have hm := ifp hc2 hm
            refine lv_tableIn (off := 70) (tgt := 111) hx hb dX6_strokeOf_41 (by rw [hc2]; decide) (by rw [hc2]; decide) (by rw [hc2]; rfl) (by decide) ?_
            refine lv_aload_n hx hb dX6_strokeOf_111 rfl (lv_at hl 0 rfl) ?_
            refine lv_iload_n hx hb dX6_strokeOf_112 rfl (lv_at hl 1 rfl) ?_
            refine lv_iconst (v := 2) hx hb dX6_strokeOf_113 (by decide) ?_
            obtain ⟨r9, hcl, hm⟩ := bnd hm
            refine kVW C X (kX6_fixedMany l g a p1 2 u5 r9 hcl) (cw_X6_strokeOf_X6_fixedMany_198 C) 0 (ci := 6) rfl rfl (As := [.int p1, .int 2]) rfl hl (rest := []) rfl (Nat.le_of_ble_eq_true rfl) (st2 := [.int r9]) rfl dX6_strokeOf_114 ⟨Nat.le_of_ble_eq_true rfl, Nat.le_of_ble_eq_true rfl⟩ (fun H locs X => ?_)
            clear hcl
            cases sm hm
            exact kiret C X dX6_strokeOf_117
          · have hm := ifn hc2 hm
            by_cases hc3 : p2 = 3
            · have hm := ifp hc3 hm
              refine lv_tableIn (off := 77) (tgt := 118) hx hb dX6_strokeOf_41 (by rw [hc3]; decide) (by rw [hc3]; decide) (by rw [hc3]; rfl) (by decide) ?_
              refine lv_aload_n hx hb dX6_strokeOf_118 rfl (lv_at hl 0 rfl) ?_
              refine lv_iload_n hx hb dX6_strokeOf_119 rfl (lv_at hl 1 rfl) ?_
              refine lv_iconst (v := 4) hx hb dX6_strokeOf_120 (by decide) ?_
              obtain ⟨r10, hcl, hm⟩ := bnd hm
              refine kVW C X (kX6_fixedMany l g a p1 4 u5 r10 hcl) (cw_X6_strokeOf_X6_fixedMany_198 C) 0 (ci := 6) rfl rfl (As := [.int p1, .int 4]) rfl hl (rest := []) rfl (Nat.le_of_ble_eq_true rfl) (st2 := [.int r10]) rfl dX6_strokeOf_121 ⟨Nat.le_of_ble_eq_true rfl, Nat.le_of_ble_eq_true rfl⟩ (fun H locs X => ?_)
              clear hcl
              cases sm hm
              exact kiret C X dX6_strokeOf_124
            · have hm := ifn hc3 hm
              by_cases hc4 : p2 = 4
              · have hm := ifp hc4 hm
                refine lv_tableIn (off := 84) (tgt := 125) hx hb dX6_strokeOf_41 (by rw [hc4]; decide) (by rw [hc4]; decide) (by rw [hc4]; rfl) (by decide) ?_
                refine lv_aload_n hx hb dX6_strokeOf_125 rfl (lv_at hl 0 rfl) ?_
                refine lv_iload_n hx hb dX6_strokeOf_126 rfl (lv_at hl 1 rfl) ?_
                obtain ⟨r11, hcl, hm⟩ := bnd hm
                refine kVW C X (kX6_lengthOf l g a p1 u5 r11 hcl) (cw_X6_strokeOf_X6_lengthOf_201 C) 0 (ci := 6) rfl rfl (As := [.int p1]) rfl hl (rest := []) rfl (Nat.le_of_ble_eq_true rfl) (st2 := [.int r11]) rfl dX6_strokeOf_127 ⟨Nat.le_of_ble_eq_true rfl, Nat.le_of_ble_eq_true rfl⟩ (fun H locs X => ?_)
                clear hcl
                cases sm hm
                exact kiret C X dX6_strokeOf_130
              · have hm := ifn hc4 hm
                by_cases hc5 : p2 = 5
                · have hm := ifp hc5 hm
                  refine lv_tableIn (off := 90) (tgt := 131) hx hb dX6_strokeOf_41 (by rw [hc5]; decide) (by rw [hc5]; decide) (by rw [hc5]; rfl) (by decide) ?_
                  refine lv_aload_n hx hb dX6_strokeOf_131 rfl (lv_at hl 0 rfl) ?_
                  refine lv_iload_n hx hb dX6_strokeOf_132 rfl (lv_at hl 1 rfl) ?_
                  obtain ⟨⟨r12, u13⟩, hcl, hm⟩ := bnd hm
                  refine kVW C X (kX6_greatestStray l g a p1 u5 r12 u13 hcl) (cw_X6_strokeOf_X6_greatestStray_195 C) 0 (ci := 6) rfl rfl (As := [.int p1]) rfl hl (rest := []) rfl (Nat.le_of_ble_eq_true rfl) (st2 := [.int r12]) rfl dX6_strokeOf_133 ⟨Nat.le_of_ble_eq_true rfl, Nat.le_of_ble_eq_true rfl⟩ (fun H locs X => ?_)
                  clear hcl
                  cases sm hm
                  exact kiret C X dX6_strokeOf_136
                · have hm := ifn hc5 hm
                  by_cases hc6 : p2 = 6
                  · have hm := ifp hc6 hm
                    refine lv_tableIn (off := 96) (tgt := 137) hx hb dX6_strokeOf_41 (by rw [hc6]; decide) (by rw [hc6]; decide) (by rw [hc6]; rfl) (by decide) ?_
                    refine lv_aload_n hx hb dX6_strokeOf_137 rfl (lv_at hl 0 rfl) ?_
                    refine lv_iload_n hx hb dX6_strokeOf_138 rfl (lv_at hl 1 rfl) ?_
                    obtain ⟨⟨r14, u15⟩, hcl, hm⟩ := bnd hm
                    refine kVW C X (kX6_firstStray l g a p1 u5 r14 u15 hcl) (cw_X6_strokeOf_X6_firstStray_204 C) 0 (ci := 6) rfl rfl (As := [.int p1]) rfl hl (rest := []) rfl (Nat.le_of_ble_eq_true rfl) (st2 := [.int r14]) rfl dX6_strokeOf_139 ⟨Nat.le_of_ble_eq_true rfl, Nat.le_of_ble_eq_true rfl⟩ (fun H locs X => ?_)
                    clear hcl
                    cases sm hm
                    exact kiret C X dX6_strokeOf_142
                  · have hm := ifn hc6 hm
                    by_cases hc7 : p2 = 7
                    · have hm := ifp hc7 hm
                      refine lv_tableIn (off := 102) (tgt := 143) hx hb dX6_strokeOf_41 (by rw [hc7]; decide) (by rw [hc7]; decide) (by rw [hc7]; rfl) (by decide) ?_
                      refine lv_aload_n hx hb dX6_strokeOf_143 rfl (lv_at hl 0 rfl) ?_
                      refine lv_iload_n hx hb dX6_strokeOf_144 rfl (lv_at hl 1 rfl) ?_
                      refine lv_iconst (v := 0) hx hb dX6_strokeOf_145 (by decide) ?_
                      obtain ⟨r16, hcl, hm⟩ := bnd hm
                      refine kVW C X (kX6_spread l g a p1 0 u5 r16 hcl) (cw_X6_strokeOf_X6_spread_207 C) 0 (ci := 6) rfl rfl (As := [.int p1, .int 0]) rfl hl (rest := []) rfl (Nat.le_of_ble_eq_true rfl) (st2 := [.int r16]) rfl dX6_strokeOf_146 ⟨Nat.le_of_ble_eq_true rfl, Nat.le_of_ble_eq_true rfl⟩ (fun H locs X => ?_)
                      clear hcl
                      cases sm hm
                      exact kiret C X dX6_strokeOf_149
                    · have hm := ifn hc7 hm
                      by_cases hc8 : p2 = 8
                      · have hm := ifp hc8 hm
                        refine lv_tableIn (off := 109) (tgt := 150) hx hb dX6_strokeOf_41 (by rw [hc8]; decide) (by rw [hc8]; decide) (by rw [hc8]; rfl) (by decide) ?_
                        refine lv_aload_n hx hb dX6_strokeOf_150 rfl (lv_at hl 0 rfl) ?_
                        refine lv_iload_n hx hb dX6_strokeOf_151 rfl (lv_at hl 1 rfl) ?_
                        refine lv_iconst (v := 1) hx hb dX6_strokeOf_152 (by decide) ?_
                        obtain ⟨r17, hcl, hm⟩ := bnd hm
                        refine kVW C X (kX6_spread l g a p1 1 u5 r17 hcl) (cw_X6_strokeOf_X6_spread_207 C) 0 (ci := 6) rfl rfl (As := [.int p1, .int 1]) rfl hl (rest := []) rfl (Nat.le_of_ble_eq_true rfl) (st2 := [.int r17]) rfl dX6_strokeOf_153 ⟨Nat.le_of_ble_eq_true rfl, Nat.le_of_ble_eq_true rfl⟩ (fun H locs X => ?_)
                        clear hcl
                        cases sm hm
                        exact kiret C X dX6_strokeOf_156
                      · have hm := ifn hc8 hm
                        by_cases hc9 : p2 = 9
                        · have hm := ifp hc9 hm
                          refine lv_tableIn (off := 116) (tgt := 157) hx hb dX6_strokeOf_41 (by rw [hc9]; decide) (by rw [hc9]; decide) (by rw [hc9]; rfl) (by decide) ?_
                          refine lv_aload_n hx hb dX6_strokeOf_157 rfl (lv_at hl 0 rfl) ?_
                          refine lv_iload_n hx hb dX6_strokeOf_158 rfl (lv_at hl 1 rfl) ?_
                          obtain ⟨r18, hcl, hm⟩ := bnd hm
                          refine kVW C X (kX6_joins l g a p1 u5 r18 hcl) (cw_X6_strokeOf_X6_joins_210 C) 0 (ci := 6) rfl rfl (As := [.int p1]) rfl hl (rest := []) rfl (Nat.le_of_ble_eq_true rfl) (st2 := [.int r18]) rfl dX6_strokeOf_159 ⟨Nat.le_of_ble_eq_true rfl, Nat.le_of_ble_eq_true rfl⟩ (fun H locs X => ?_)
                          clear hcl
                          cases sm hm
                          exact kiret C X dX6_strokeOf_162
                        · have hm := ifn hc9 hm
                          refine lv_tableOut (tgt := 163) hx hb dX6_strokeOf_41 (tb_out10 hc0 hc1 hc2 hc3 hc4 hc5 hc6 hc7 hc8 hc9) (by decide) ?_
                          refine lv_aload_n hx hb dX6_strokeOf_163 rfl (lv_at hl 0 rfl) ?_
                          refine lv_iload_n hx hb dX6_strokeOf_164 rfl (lv_at hl 1 rfl) ?_
                          obtain ⟨r19, hcl, hm⟩ := bnd hm
                          refine kVW C X (kX6_keptOf l g a p1 u5 r19 hcl) (cw_X6_strokeOf_X6_keptOf_160 C) 0 (ci := 6) rfl rfl (As := [.int p1]) rfl hl (rest := []) rfl (Nat.le_of_ble_eq_true rfl) (st2 := [.int r19]) rfl dX6_strokeOf_165 ⟨Nat.le_of_ble_eq_true rfl, Nat.le_of_ble_eq_true rfl⟩ (fun H locs X => ?_)
                          clear hcl
                          cases sm hm
                          exact kiret C X dX6_strokeOf_168
    · have hm := ifn hc hm
      refine lv_iconst (v := 0) hx hb dX6_strokeOf_38 (by decide) ?_
      cases sm hm
      exact kiret C X dX6_strokeOf_39
  clear hm
  have hm := hE
  clear hE
  refine lv_if_ne (tgt := 13) hx hb dX6_strokeOf_6 (by decide) (fun hc => ?_) (fun hc => ?_)
  · have hm := ifn hc hm
    refine lv_iload_n hx hb dX6_strokeOf_13 rfl (lv_at hl 2 rfl) ?_
    refine lv_iconst (v := 0) hx hb dX6_strokeOf_14 (by decide) ?_
    refine lv_bipush (v := 10) hx hb dX6_strokeOf_15 (by decide) ?_
    obtain ⟨r4, hcl, hm⟩ := bnd hm
    refine kS0 C X (kX6_in l g p2 0 10 r4 hcl) (cw_X6_strokeOf_X6_in_39 C) (As := [.int p2, .int 0, .int 10]) rfl hl (rest := [.ref (a 0)]) rfl (Nat.le_of_ble_eq_true rfl) (st2 := [.int r4, .ref (a 0)]) rfl dX6_strokeOf_17 ⟨Nat.le_of_ble_eq_true rfl, Nat.le_of_ble_eq_true rfl⟩ (fun H locs X => ?_)
    clear hcl
    refine lv_if_eq (tgt := 27) hx hb dX6_strokeOf_20 (by decide) (fun hc => ?_) (fun hc => ?_)
    · have hm := ifp hc hm
      refine lv_iconst (v := 2) hx hb dX6_strokeOf_27 (by decide) ?_
      cases sm hm
      exact K _ _ _ X (lv_sub hl [0, 1, 2] rfl)
    · have hm := ifn hc hm
      refine lv_iconst (v := 0) hx hb dX6_strokeOf_23 (by decide) ?_
      refine lv_goto (tgt := 28) hx hb dX6_strokeOf_24 (by decide) ?_
      cases sm hm
      exact K _ _ _ X (lv_sub hl [0, 1, 2] rfl)
  · have hm := ifp hc hm
    refine lv_iconst (v := 1) hx hb dX6_strokeOf_9 (by decide) ?_
    refine lv_goto (tgt := 28) hx hb dX6_strokeOf_10 (by decide) ?_
    cases sm hm
    exact K _ _ _ X (lv_sub hl [0, 1, 2] rfl)
-- X6 BrushStrokesModel.distance(IIII)I
abbrev rX6_distance : Room := { frames := 4, cells := 0, slots := 0, locals := 110 }
theorem fl_X6_distance_35 : (Cond.fieldLink RX6 35 "BrushStrokesModel" "thrown" "I") ∈ wsX6_distance := by decide +kernel
theorem in_X6_distance_X6 : ∀ w ∈ u_ws RX6 TX6 16, w ∈ wsX6_distance := by decide +kernel
theorem cw_X6_distance_X6_isPoint_147 {p : Program} {s : State} {m : MethodId} {args : Array Value} {meth : Method} {c : Code} {g : kG} {A : Nat → Prop} (C : CT g p s m args meth c RX6 cX6_distance 5 (some .int) wsX6_distance A) : CallW rX6_distance s args RX6 RX6 147 yX6_isPoint cX6_isPoint 3 (some .boolean) wsX6_isPoint rX6_isPoint 0 0 2 := cwV 2 C.2.2.2.2.2.1 gX6_distance_X6_isPoint rfl rfl rfl (by decide +kernel) ⟨Nat.le_of_ble_eq_true rfl, Nat.le_of_ble_eq_true rfl⟩
theorem cw_X6_distance_X6_hundredths_189 {p : Program} {s : State} {m : MethodId} {args : Array Value} {meth : Method} {c : Code} {g : kG} {A : Nat → Prop} (C : CT g p s m args meth c RX6 cX6_distance 5 (some .int) wsX6_distance A) : CallW rX6_distance s args RX6 RX6 189 yX6_hundredths cX6_hundredths 5 (some .int) wsX6_hundredths rX6_hundredths 0 0 4 := cwV 4 C.2.2.2.2.2.1 gX6_distance_X6_hundredths rfl rfl rfl (by decide +kernel) ⟨Nat.le_of_ble_eq_true rfl, Nat.le_of_ble_eq_true rfl⟩
noncomputable def fX6_distance (p1 : Int32) (p2 : Int32) (p3 : Int32) (p4 : Int32) (u : MS) : Option (Int32 × MS) := (fX6_isPoint p1 p2 u).bind fun r1 => ((if r1 = 0 then (some 1) else ((fX6_isPoint p1 p3 u).bind fun r5 => if r5 = 0 then (some 1) else ((fX6_isPoint p1 p4 u).bind fun r6 => if r6 = 0 then (some 1) else (some 0)))) : Option (Int32)).bind fun v4 => lt (M_s_thrown u v4) fun u7 => ((if (M_thrown u7) ≤ 0 then ((fX6_hundredths p1 p2 p3 p4 u7).bind fun (r12, u13) => some (r12, u13)) else (some (0, u7))) : Option (Int32 × MS)).bind fun (v10, u11) => some (v10, u11)
set_option maxRecDepth 100000 in
set_option maxHeartbeats 4000000 in
theorem kX6_distance (l : Launch) (g : kG) (a : Nat → Nat) (p1 : Int32) (p2 : Int32) (p3 : Int32) (p4 : Int32) (u : MS) (o1 : Int32) (o2 : MS) (hm : fX6_distance p1 p2 p3 p4 u = some (o1, o2)) : KM l yX6_distance wsX6_distance rX6_distance g [.ref (a 0), .int p1, .int p2, .int p3, .int p4] (wM g a u) (some (.int o1)) (wM g a o2) 0 0 := by
  refine KM.of (nL := 5) (by decide) rfl (Nat.le_of_ble_eq_true rfl) ?_
  intro p e s m args below meth c A ls C X hl
  have C : CT g p s m args meth c RX6 cX6_distance 5 (some .int) wsX6_distance A := C
  have hx := C.1
  have hb := C.2.1
  have hl : lv_has ls 5 [(0, .ref (a 0)), (1, .int p1), (2, .int p2), (3, .int p3), (4, .int p4)] := hl
  have hinX6 := in_X6_distance_X6
  have hf35 := C.2.2.2.2.2.1 _ fl_X6_distance_35
  rw [fX6_distance] at hm
  refine lv_aload_n hx hb dX6_distance_0 rfl (lv_at hl 0 rfl) ?_
  refine lv_aload_n hx hb dX6_distance_1 rfl (lv_at hl 0 rfl) ?_
  refine lv_iload_n hx hb dX6_distance_2 rfl (lv_at hl 1 rfl) ?_
  refine lv_iload_n hx hb dX6_distance_3 rfl (lv_at hl 2 rfl) ?_
  obtain ⟨r1, hcl, hm⟩ := bnd hm
  refine kVW C X (kX6_isPoint l g a p1 p2 u r1 hcl) (cw_X6_distance_X6_isPoint_147 C) 0 (ci := 6) rfl rfl (As := [.int p1, .int p2]) rfl hl (rest := [.ref (a 0)]) rfl (Nat.le_of_ble_eq_true rfl) (st2 := [.int r1, .ref (a 0)]) rfl dX6_distance_4 ⟨Nat.le_of_ble_eq_true rfl, Nat.le_of_ble_eq_true rfl⟩ (fun H locs X => ?_)
  clear hcl
  obtain ⟨v4, hE, hm⟩ := bnd hm
  have K : ∀ (H : Heap) (locs : List Loc) (ls : Array Slot), ST g A s H locs (wM g a u) → lv_has ls 5 [(0, .ref (a 0)), (1, .int p1), (2, .int p2), (3, .int p3), (4, .int p4)] → W p l e rX6_distance s m args below meth c H locs 0 0 (kEnd g below args s (some (.int o1)) (wM g a o2) A 0 0) (F0 m 34 ls [.int v4, .ref (a 0)]) := by
    intro H locs ls X hl
    clear hE
    obtain ⟨u7, eu⟩ : ∃ z, z = M_s_thrown u v4 := ⟨_, rfl⟩
    have hm := lt_t eu hm
    refine kput C X 0 (ci := 6) rfl rfl hinX6 tyX6_ok nmX6 0 (by decide) hf35 rfl (ty := .int) (v := .int v4) rfl rfl rfl (Nat.le_of_ble_eq_true rfl) (w2 := wM g a u7) (by subst eu; rfl) dX6_distance_34 (fun H locs X => ?_)
    clear eu
    refine lv_aload_n hx hb dX6_distance_37 rfl (lv_at hl 0 rfl) ?_
    refine kget C X 0 (ci := 6) rfl rfl hinX6 0 (by decide) hf35 (v := .int (M_thrown u7)) rfl dX6_distance_38 ?_
    obtain ⟨⟨v10, u11⟩, hE, hm⟩ := bnd hm
    have K : ∀ (H : Heap) (locs : List Loc) (ls : Array Slot), ST g A s H locs (wM g a u11) → lv_has ls 5 [] → W p l e rX6_distance s m args below meth c H locs 0 0 (kEnd g below args s (some (.int o1)) (wM g a o2) A 0 0) (F0 m 57 ls [.int v10]) := by
      intro H locs ls X hl
      clear hE
      cases sm hm
      exact kiret C X dX6_distance_57
    clear hm
    have hm := hE
    clear hE
    refine lv_if_le (tgt := 48) hx hb dX6_distance_41 (by decide) (fun hc => ?_) (fun hc => ?_)
    · have hm := ifp hc hm
      refine lv_aload_n hx hb dX6_distance_48 rfl (lv_at hl 0 rfl) ?_
      refine lv_iload_n hx hb dX6_distance_49 rfl (lv_at hl 1 rfl) ?_
      refine lv_iload_n hx hb dX6_distance_50 rfl (lv_at hl 2 rfl) ?_
      refine lv_iload_n hx hb dX6_distance_51 rfl (lv_at hl 3 rfl) ?_
      refine lv_iload hx hb dX6_distance_52 (lv_at hl 4 rfl) ?_
      obtain ⟨⟨r12, u13⟩, hcl, hm⟩ := bnd hm
      refine kVW C X (kX6_hundredths l g a p1 p2 p3 p4 u7 r12 u13 hcl) (cw_X6_distance_X6_hundredths_189 C) 0 (ci := 6) rfl rfl (As := [.int p1, .int p2, .int p3, .int p4]) rfl hl (rest := []) rfl (Nat.le_of_ble_eq_true rfl) (st2 := [.int r12]) rfl dX6_distance_54 ⟨Nat.le_of_ble_eq_true rfl, Nat.le_of_ble_eq_true rfl⟩ (fun H locs X => ?_)
      clear hcl
      cases sm hm
      exact K _ _ _ X (lv_sub hl [] rfl)
    · have hm := ifn hc hm
      refine lv_iconst (v := 0) hx hb dX6_distance_44 (by decide) ?_
      refine lv_goto (tgt := 57) hx hb dX6_distance_45 (by decide) ?_
      cases sm hm
      exact K _ _ _ X (lv_sub hl [] rfl)
  clear hm
  have hm := hE
  clear hE
  refine lv_if_eq (tgt := 33) hx hb dX6_distance_7 (by decide) (fun hc => ?_) (fun hc => ?_)
  · have hm := ifp hc hm
    refine lv_iconst (v := 1) hx hb dX6_distance_33 (by decide) ?_
    cases sm hm
    exact K _ _ _ X (lv_sub hl [0, 1, 2, 3, 4] rfl)
  · have hm := ifn hc hm
    refine lv_aload_n hx hb dX6_distance_10 rfl (lv_at hl 0 rfl) ?_
    refine lv_iload_n hx hb dX6_distance_11 rfl (lv_at hl 1 rfl) ?_
    refine lv_iload_n hx hb dX6_distance_12 rfl (lv_at hl 3 rfl) ?_
    obtain ⟨r5, hcl, hm⟩ := bnd hm
    refine kVW C X (kX6_isPoint l g a p1 p3 u r5 hcl) (cw_X6_distance_X6_isPoint_147 C) 0 (ci := 6) rfl rfl (As := [.int p1, .int p3]) rfl hl (rest := [.ref (a 0)]) rfl (Nat.le_of_ble_eq_true rfl) (st2 := [.int r5, .ref (a 0)]) rfl dX6_distance_13 ⟨Nat.le_of_ble_eq_true rfl, Nat.le_of_ble_eq_true rfl⟩ (fun H locs X => ?_)
    clear hcl
    refine lv_if_eq (tgt := 33) hx hb dX6_distance_16 (by decide) (fun hc => ?_) (fun hc => ?_)
    · have hm := ifp hc hm
      refine lv_iconst (v := 1) hx hb dX6_distance_33 (by decide) ?_
      cases sm hm
      exact K _ _ _ X (lv_sub hl [0, 1, 2, 3, 4] rfl)
    · have hm := ifn hc hm
      refine lv_aload_n hx hb dX6_distance_19 rfl (lv_at hl 0 rfl) ?_
      refine lv_iload_n hx hb dX6_distance_20 rfl (lv_at hl 1 rfl) ?_
      refine lv_iload hx hb dX6_distance_21 (lv_at hl 4 rfl) ?_
      obtain ⟨r6, hcl, hm⟩ := bnd hm
      refine kVW C X (kX6_isPoint l g a p1 p4 u r6 hcl) (cw_X6_distance_X6_isPoint_147 C) 0 (ci := 6) rfl rfl (As := [.int p1, .int p4]) rfl hl (rest := [.ref (a 0)]) rfl (Nat.le_of_ble_eq_true rfl) (st2 := [.int r6, .ref (a 0)]) rfl dX6_distance_23 ⟨Nat.le_of_ble_eq_true rfl, Nat.le_of_ble_eq_true rfl⟩ (fun H locs X => ?_)
      clear hcl
      refine lv_if_eq (tgt := 33) hx hb dX6_distance_26 (by decide) (fun hc => ?_) (fun hc => ?_)
      · have hm := ifp hc hm
        refine lv_iconst (v := 1) hx hb dX6_distance_33 (by decide) ?_
        cases sm hm
        exact K _ _ _ X (lv_sub hl [0, 1, 2, 3, 4] rfl)
      · have hm := ifn hc hm
        refine lv_iconst (v := 0) hx hb dX6_distance_29 (by decide) ?_
        refine lv_goto (tgt := 34) hx hb dX6_distance_30 (by decide) ?_
        cases sm hm
        exact K _ _ _ X (lv_sub hl [0, 1, 2, 3, 4] rfl)
-- X6 BrushStrokesModel.side(IIII)I
abbrev rX6_side : Room := { frames := 1, cells := 0, slots := 0, locals := 23 }
theorem cw_X6_side_X6_of_65 {p : Program} {s : State} {m : MethodId} {args : Array Value} {meth : Method} {c : Code} {g : kG} {A : Nat → Prop} (C : CT g p s m args meth c RX6 cX6_side 9 (some .int) wsX6_side A) : CallW rX6_side s args RX6 RX6 65 yX6_of cX6_of 4 (some .int) wsX6_of rX6_of 0 0 3 := cwV 3 C.2.2.2.2.2.1 gX6_side_X6_of rfl rfl rfl (by decide +kernel) ⟨Nat.le_of_ble_eq_true rfl, Nat.le_of_ble_eq_true rfl⟩
noncomputable def fX6_side (p1 : Int32) (p2 : Int32) (p3 : Int32) (p4 : Int32) (u : MS) : Option (Int32) := (fX6_of p1 p3 0 u).bind fun r1 => (fX6_of p1 p2 0 u).bind fun r2 => (fX6_of p1 p3 1 u).bind fun r3 => (fX6_of p1 p2 1 u).bind fun r4 => (fX6_of p1 p4 0 u).bind fun r5 => (fX6_of p1 p2 0 u).bind fun r6 => (fX6_of p1 p4 1 u).bind fun r7 => (fX6_of p1 p2 1 u).bind fun r8 => some (((r1 - r2) * (r7 - r8)) - ((r3 - r4) * (r5 - r6)))
set_option maxRecDepth 100000 in
set_option maxHeartbeats 4000000 in
theorem kX6_side (l : Launch) (g : kG) (a : Nat → Nat) (p1 : Int32) (p2 : Int32) (p3 : Int32) (p4 : Int32) (u : MS) (o1 : Int32) (hm : fX6_side p1 p2 p3 p4 u = some o1) : KM l yX6_side wsX6_side rX6_side g [.ref (a 0), .int p1, .int p2, .int p3, .int p4] (wM g a u) (some (.int o1)) (wM g a u) 0 0 := by
  refine KM.of (nL := 9) (by decide) rfl (Nat.le_of_ble_eq_true rfl) ?_
  intro p e s m args below meth c A ls C X hl
  have C : CT g p s m args meth c RX6 cX6_side 9 (some .int) wsX6_side A := C
  have hx := C.1
  have hb := C.2.1
  have hl : lv_has ls 9 [(0, .ref (a 0)), (1, .int p1), (2, .int p2), (3, .int p3), (4, .int p4)] := hl
  rw [fX6_side] at hm
  refine lv_aload_n hx hb dX6_side_0 rfl (lv_at hl 0 rfl) ?_
  refine lv_iload_n hx hb dX6_side_1 rfl (lv_at hl 1 rfl) ?_
  refine lv_iload_n hx hb dX6_side_2 rfl (lv_at hl 3 rfl) ?_
  refine lv_iconst (v := 0) hx hb dX6_side_3 (by decide) ?_
  obtain ⟨r1, hcl, hm⟩ := bnd hm
  refine kVW C X (kX6_of l g a p1 p3 0 u r1 hcl) (cw_X6_side_X6_of_65 C) 0 (ci := 6) rfl rfl (As := [.int p1, .int p3, .int 0]) rfl hl (rest := []) rfl (Nat.le_of_ble_eq_true rfl) (st2 := [.int r1]) rfl dX6_side_4 ⟨Nat.le_of_ble_eq_true rfl, Nat.le_of_ble_eq_true rfl⟩ (fun H locs X => ?_)
  clear hcl
  refine lv_aload_n hx hb dX6_side_7 rfl (lv_at hl 0 rfl) ?_
  refine lv_iload_n hx hb dX6_side_8 rfl (lv_at hl 1 rfl) ?_
  refine lv_iload_n hx hb dX6_side_9 rfl (lv_at hl 2 rfl) ?_
  refine lv_iconst (v := 0) hx hb dX6_side_10 (by decide) ?_
  obtain ⟨r2, hcl, hm⟩ := bnd hm
  refine kVW C X (kX6_of l g a p1 p2 0 u r2 hcl) (cw_X6_side_X6_of_65 C) 0 (ci := 6) rfl rfl (As := [.int p1, .int p2, .int 0]) rfl hl (rest := [.int r1]) rfl (Nat.le_of_ble_eq_true rfl) (st2 := [.int r2, .int r1]) rfl dX6_side_11 ⟨Nat.le_of_ble_eq_true rfl, Nat.le_of_ble_eq_true rfl⟩ (fun H locs X => ?_)
  clear hcl
  refine lv_isub hx hb dX6_side_14 ?_
  refine lv_istore (lv' := [(5, .int (r1 - r2)), (0, .ref (a 0)), (1, .int p1), (2, .int p2), (3, .int p3), (4, .int p4)]) hx hb dX6_side_15 hl (by decide) rfl (fun ls hl => ?_)
  refine lv_aload_n hx hb dX6_side_17 rfl (lv_at hl 1 rfl) ?_
  refine lv_iload_n hx hb dX6_side_18 rfl (lv_at hl 2 rfl) ?_
  refine lv_iload_n hx hb dX6_side_19 rfl (lv_at hl 4 rfl) ?_
  refine lv_iconst (v := 1) hx hb dX6_side_20 (by decide) ?_
  obtain ⟨r3, hcl, hm⟩ := bnd hm
  refine kVW C X (kX6_of l g a p1 p3 1 u r3 hcl) (cw_X6_side_X6_of_65 C) 0 (ci := 6) rfl rfl (As := [.int p1, .int p3, .int 1]) rfl hl (rest := []) rfl (Nat.le_of_ble_eq_true rfl) (st2 := [.int r3]) rfl dX6_side_21 ⟨Nat.le_of_ble_eq_true rfl, Nat.le_of_ble_eq_true rfl⟩ (fun H locs X => ?_)
  clear hcl
  refine lv_aload_n hx hb dX6_side_24 rfl (lv_at hl 1 rfl) ?_
  refine lv_iload_n hx hb dX6_side_25 rfl (lv_at hl 2 rfl) ?_
  refine lv_iload_n hx hb dX6_side_26 rfl (lv_at hl 3 rfl) ?_
  refine lv_iconst (v := 1) hx hb dX6_side_27 (by decide) ?_
  obtain ⟨r4, hcl, hm⟩ := bnd hm
  refine kVW C X (kX6_of l g a p1 p2 1 u r4 hcl) (cw_X6_side_X6_of_65 C) 0 (ci := 6) rfl rfl (As := [.int p1, .int p2, .int 1]) rfl hl (rest := [.int r3]) rfl (Nat.le_of_ble_eq_true rfl) (st2 := [.int r4, .int r3]) rfl dX6_side_28 ⟨Nat.le_of_ble_eq_true rfl, Nat.le_of_ble_eq_true rfl⟩ (fun H locs X => ?_)
  clear hcl
  refine lv_isub hx hb dX6_side_31 ?_
  refine lv_istore (lv' := [(6, .int (r3 - r4)), (5, .int (r1 - r2)), (0, .ref (a 0)), (1, .int p1), (2, .int p2), (3, .int p3), (4, .int p4)]) hx hb dX6_side_32 hl (by decide) rfl (fun ls hl => ?_)
  refine lv_aload_n hx hb dX6_side_34 rfl (lv_at hl 2 rfl) ?_
  refine lv_iload_n hx hb dX6_side_35 rfl (lv_at hl 3 rfl) ?_
  refine lv_iload hx hb dX6_side_36 (lv_at hl 6 rfl) ?_
  refine lv_iconst (v := 0) hx hb dX6_side_38 (by decide) ?_
  obtain ⟨r5, hcl, hm⟩ := bnd hm
  refine kVW C X (kX6_of l g a p1 p4 0 u r5 hcl) (cw_X6_side_X6_of_65 C) 0 (ci := 6) rfl rfl (As := [.int p1, .int p4, .int 0]) rfl hl (rest := []) rfl (Nat.le_of_ble_eq_true rfl) (st2 := [.int r5]) rfl dX6_side_39 ⟨Nat.le_of_ble_eq_true rfl, Nat.le_of_ble_eq_true rfl⟩ (fun H locs X => ?_)
  clear hcl
  refine lv_aload_n hx hb dX6_side_42 rfl (lv_at hl 2 rfl) ?_
  refine lv_iload_n hx hb dX6_side_43 rfl (lv_at hl 3 rfl) ?_
  refine lv_iload_n hx hb dX6_side_44 rfl (lv_at hl 4 rfl) ?_
  refine lv_iconst (v := 0) hx hb dX6_side_45 (by decide) ?_
  obtain ⟨r6, hcl, hm⟩ := bnd hm
  refine kVW C X (kX6_of l g a p1 p2 0 u r6 hcl) (cw_X6_side_X6_of_65 C) 0 (ci := 6) rfl rfl (As := [.int p1, .int p2, .int 0]) rfl hl (rest := [.int r5]) rfl (Nat.le_of_ble_eq_true rfl) (st2 := [.int r6, .int r5]) rfl dX6_side_46 ⟨Nat.le_of_ble_eq_true rfl, Nat.le_of_ble_eq_true rfl⟩ (fun H locs X => ?_)
  clear hcl
  refine lv_isub hx hb dX6_side_49 ?_
  refine lv_istore (lv' := [(7, .int (r5 - r6)), (6, .int (r3 - r4)), (5, .int (r1 - r2)), (0, .ref (a 0)), (1, .int p1), (2, .int p2), (3, .int p3), (4, .int p4)]) hx hb dX6_side_50 hl (by decide) rfl (fun ls hl => ?_)
  refine lv_aload_n hx hb dX6_side_52 rfl (lv_at hl 3 rfl) ?_
  refine lv_iload_n hx hb dX6_side_53 rfl (lv_at hl 4 rfl) ?_
  refine lv_iload hx hb dX6_side_54 (lv_at hl 7 rfl) ?_
  refine lv_iconst (v := 1) hx hb dX6_side_56 (by decide) ?_
  obtain ⟨r7, hcl, hm⟩ := bnd hm
  refine kVW C X (kX6_of l g a p1 p4 1 u r7 hcl) (cw_X6_side_X6_of_65 C) 0 (ci := 6) rfl rfl (As := [.int p1, .int p4, .int 1]) rfl hl (rest := []) rfl (Nat.le_of_ble_eq_true rfl) (st2 := [.int r7]) rfl dX6_side_57 ⟨Nat.le_of_ble_eq_true rfl, Nat.le_of_ble_eq_true rfl⟩ (fun H locs X => ?_)
  clear hcl
  refine lv_aload_n hx hb dX6_side_60 rfl (lv_at hl 3 rfl) ?_
  refine lv_iload_n hx hb dX6_side_61 rfl (lv_at hl 4 rfl) ?_
  refine lv_iload_n hx hb dX6_side_62 rfl (lv_at hl 5 rfl) ?_
  refine lv_iconst (v := 1) hx hb dX6_side_63 (by decide) ?_
  obtain ⟨r8, hcl, hm⟩ := bnd hm
  refine kVW C X (kX6_of l g a p1 p2 1 u r8 hcl) (cw_X6_side_X6_of_65 C) 0 (ci := 6) rfl rfl (As := [.int p1, .int p2, .int 1]) rfl hl (rest := [.int r7]) rfl (Nat.le_of_ble_eq_true rfl) (st2 := [.int r8, .int r7]) rfl dX6_side_64 ⟨Nat.le_of_ble_eq_true rfl, Nat.le_of_ble_eq_true rfl⟩ (fun H locs X => ?_)
  clear hcl
  refine lv_isub hx hb dX6_side_67 ?_
  refine lv_istore (lv' := [(8, .int (r7 - r8)), (7, .int (r5 - r6)), (6, .int (r3 - r4)), (5, .int (r1 - r2)), (0, .ref (a 0)), (1, .int p1), (2, .int p2), (3, .int p3), (4, .int p4)]) hx hb dX6_side_68 hl (by decide) rfl (fun ls hl => ?_)
  refine lv_iload hx hb dX6_side_70 (lv_at hl 3 rfl) ?_
  refine lv_iload hx hb dX6_side_72 (lv_at hl 0 rfl) ?_
  refine lv_imul hx hb dX6_side_74 ?_
  refine lv_iload hx hb dX6_side_75 (lv_at hl 2 rfl) ?_
  refine lv_iload hx hb dX6_side_77 (lv_at hl 1 rfl) ?_
  refine lv_imul hx hb dX6_side_79 ?_
  refine lv_isub hx hb dX6_side_80 ?_
  cases sm hm
  exact kiret C X dX6_side_81
-- X6 BrushStrokesModel.areOpposite(II)Z
abbrev rX6_areOpposite : Room := { frames := 0, cells := 0, slots := 0, locals := 0 }
noncomputable def fX6_areOpposite (p1 : Int32) (p2 : Int32) : Option (Int32) := ((if 0 ≤ p1 then (if p1 ≤ 0 then (some 0) else (if 0 ≤ p2 then (some 0) else (some 1))) else (if 0 < p2 then (some 1) else (if p1 ≤ 0 then (some 0) else (if 0 ≤ p2 then (some 0) else (some 1))))) : Option (Int32)).bind fun v1 => gd (isb v1) (some v1)
set_option maxRecDepth 100000 in
set_option maxHeartbeats 4000000 in
theorem kX6_areOpposite (l : Launch) (g : kG) (p1 : Int32) (p2 : Int32) (o1 : Int32) (hm : fX6_areOpposite p1 p2 = some o1) : KM l yX6_areOpposite wsX6_areOpposite rX6_areOpposite g [.int p1, .int p2] ([]) (some (.int o1)) ([]) 0 0 := by
  refine KM.of (nL := 2) (by decide) rfl (Nat.le_of_ble_eq_true rfl) ?_
  intro p e s m args below meth c A ls C X hl
  have C : CT g p s m args meth c RX6 cX6_areOpposite 2 (some .boolean) wsX6_areOpposite A := C
  have hx := C.1
  have hb := C.2.1
  have hl : lv_has ls 2 [(0, .int p1), (1, .int p2)] := hl
  rw [fX6_areOpposite] at hm
  refine lv_iload_n hx hb dX6_areOpposite_0 rfl (lv_at hl 0 rfl) ?_
  obtain ⟨v1, hE, hm⟩ := bnd hm
  have K : ∀ (H : Heap) (locs : List Loc) (ls : Array Slot), ST g A s H locs ([]) → lv_has ls 2 [] → W p l e rX6_areOpposite s m args below meth c H locs 0 0 (kEnd g below args s (some (.int o1)) ([]) A 0 0) (F0 m 21 ls [.int v1]) := by
    intro H locs ls X hl
    clear hE
    obtain ⟨hgb, hm⟩ := gd_t hm
    cases sm hm
    exact kzret (isb_n hgb) C X dX6_areOpposite_21
  clear hm
  have hm := hE
  clear hE
  refine lv_if_ge (tgt := 8) hx hb dX6_areOpposite_1 (by decide) (fun hc => ?_) (fun hc => ?_)
  · have hm := ifp hc hm
    refine lv_iload_n hx hb dX6_areOpposite_8 rfl (lv_at hl 0 rfl) ?_
    refine lv_if_le (tgt := 20) hx hb dX6_areOpposite_9 (by decide) (fun hc => ?_) (fun hc => ?_)
    · have hm := ifp hc hm
      refine lv_iconst (v := 0) hx hb dX6_areOpposite_20 (by decide) ?_
      cases sm hm
      exact K _ _ _ X (lv_sub hl [] rfl)
    · have hm := ifn hc hm
      refine lv_iload_n hx hb dX6_areOpposite_12 rfl (lv_at hl 1 rfl) ?_
      refine lv_if_ge (tgt := 20) hx hb dX6_areOpposite_13 (by decide) (fun hc => ?_) (fun hc => ?_)
      · have hm := ifp hc hm
        refine lv_iconst (v := 0) hx hb dX6_areOpposite_20 (by decide) ?_
        cases sm hm
        exact K _ _ _ X (lv_sub hl [] rfl)
      · have hm := ifn hc hm
        refine lv_iconst (v := 1) hx hb dX6_areOpposite_16 (by decide) ?_
        refine lv_goto (tgt := 21) hx hb dX6_areOpposite_17 (by decide) ?_
        cases sm hm
        exact K _ _ _ X (lv_sub hl [] rfl)
  · have hm := ifn hc hm
    refine lv_iload_n hx hb dX6_areOpposite_4 rfl (lv_at hl 1 rfl) ?_
    refine lv_if_gt (tgt := 16) hx hb dX6_areOpposite_5 (by decide) (fun hc => ?_) (fun hc => ?_)
    · have hm := ifp hc hm
      refine lv_iconst (v := 1) hx hb dX6_areOpposite_16 (by decide) ?_
      refine lv_goto (tgt := 21) hx hb dX6_areOpposite_17 (by decide) ?_
      cases sm hm
      exact K _ _ _ X (lv_sub hl [] rfl)
    · have hm := ifn hc hm
      refine lv_iload_n hx hb dX6_areOpposite_8 rfl (lv_at hl 0 rfl) ?_
      refine lv_if_le (tgt := 20) hx hb dX6_areOpposite_9 (by decide) (fun hc => ?_) (fun hc => ?_)
      · have hm := ifp hc hm
        refine lv_iconst (v := 0) hx hb dX6_areOpposite_20 (by decide) ?_
        cases sm hm
        exact K _ _ _ X (lv_sub hl [] rfl)
      · have hm := ifn hc hm
        refine lv_iload_n hx hb dX6_areOpposite_12 rfl (lv_at hl 1 rfl) ?_
        refine lv_if_ge (tgt := 20) hx hb dX6_areOpposite_13 (by decide) (fun hc => ?_) (fun hc => ?_)
        · have hm := ifp hc hm
          refine lv_iconst (v := 0) hx hb dX6_areOpposite_20 (by decide) ?_
          cases sm hm
          exact K _ _ _ X (lv_sub hl [] rfl)
        · have hm := ifn hc hm
          refine lv_iconst (v := 1) hx hb dX6_areOpposite_16 (by decide) ?_
          refine lv_goto (tgt := 21) hx hb dX6_areOpposite_17 (by decide) ?_
          cases sm hm
          exact K _ _ _ X (lv_sub hl [] rfl)
-- X6 BrushStrokesModel.cross(IIIII)Z
abbrev rX6_cross : Room := { frames := 2, cells := 0, slots := 0, locals := 51 }
theorem cw_X6_cross_X6_side_213 {p : Program} {s : State} {m : MethodId} {args : Array Value} {meth : Method} {c : Code} {g : kG} {A : Nat → Prop} (C : CT g p s m args meth c RX6 cX6_cross 6 (some .boolean) wsX6_cross A) : CallW rX6_cross s args RX6 RX6 213 yX6_side cX6_side 9 (some .int) wsX6_side rX6_side 0 0 4 := cwV 4 C.2.2.2.2.2.1 gX6_cross_X6_side rfl rfl rfl (by decide +kernel) ⟨Nat.le_of_ble_eq_true rfl, Nat.le_of_ble_eq_true rfl⟩
theorem cw_X6_cross_X6_areOpposite_216 {p : Program} {s : State} {m : MethodId} {args : Array Value} {meth : Method} {c : Code} {g : kG} {A : Nat → Prop} (C : CT g p s m args meth c RX6 cX6_cross 6 (some .boolean) wsX6_cross A) : CallB rX6_cross s args RX6 216 yX6_areOpposite cX6_areOpposite 2 (some .boolean) wsX6_areOpposite rX6_areOpposite 0 0 2 ∧ (Cond.static yX6_areOpposite).before args s = true := cwS 2 C.2.2.2.2.2.1 gX6_cross_X6_areOpposite rfl rfl rfl (by decide +kernel) ⟨Nat.le_of_ble_eq_true rfl, Nat.le_of_ble_eq_true rfl⟩
noncomputable def fX6_cross (p1 : Int32) (p2 : Int32) (p3 : Int32) (p4 : Int32) (p5 : Int32) (u : MS) : Option (Int32) := (fX6_side p1 p2 p3 p4 u).bind fun r1 => (fX6_side p1 p2 p3 p5 u).bind fun r2 => (fX6_areOpposite r1 r2).bind fun r3 => ((if r3 = 0 then (some 0) else ((fX6_side p1 p4 p5 p2 u).bind fun r8 => (fX6_side p1 p4 p5 p3 u).bind fun r9 => (fX6_areOpposite r8 r9).bind fun r10 => if r10 = 0 then (some 0) else (some 1))) : Option (Int32)).bind fun v7 => gd (isb v7) (some v7)
set_option maxRecDepth 100000 in
set_option maxHeartbeats 4000000 in
theorem kX6_cross (l : Launch) (g : kG) (a : Nat → Nat) (p1 : Int32) (p2 : Int32) (p3 : Int32) (p4 : Int32) (p5 : Int32) (u : MS) (o1 : Int32) (hm : fX6_cross p1 p2 p3 p4 p5 u = some o1) : KM l yX6_cross wsX6_cross rX6_cross g [.ref (a 0), .int p1, .int p2, .int p3, .int p4, .int p5] (wM g a u) (some (.int o1)) (wM g a u) 0 0 := by
  refine KM.of (nL := 6) (by decide) rfl (Nat.le_of_ble_eq_true rfl) ?_
  intro p e s m args below meth c A ls C X hl
  have C : CT g p s m args meth c RX6 cX6_cross 6 (some .boolean) wsX6_cross A := C
  have hx := C.1
  have hb := C.2.1
  have hl : lv_has ls 6 [(0, .ref (a 0)), (1, .int p1), (2, .int p2), (3, .int p3), (4, .int p4), (5, .int p5)] := hl
  rw [fX6_cross] at hm
  refine lv_aload_n hx hb dX6_cross_0 rfl (lv_at hl 0 rfl) ?_
  refine lv_iload_n hx hb dX6_cross_1 rfl (lv_at hl 1 rfl) ?_
  refine lv_iload_n hx hb dX6_cross_2 rfl (lv_at hl 2 rfl) ?_
  refine lv_iload_n hx hb dX6_cross_3 rfl (lv_at hl 3 rfl) ?_
  refine lv_iload hx hb dX6_cross_4 (lv_at hl 4 rfl) ?_
  obtain ⟨r1, hcl, hm⟩ := bnd hm
  refine kVW C X (kX6_side l g a p1 p2 p3 p4 u r1 hcl) (cw_X6_cross_X6_side_213 C) 0 (ci := 6) rfl rfl (As := [.int p1, .int p2, .int p3, .int p4]) rfl hl (rest := []) rfl (Nat.le_of_ble_eq_true rfl) (st2 := [.int r1]) rfl dX6_cross_6 ⟨Nat.le_of_ble_eq_true rfl, Nat.le_of_ble_eq_true rfl⟩ (fun H locs X => ?_)
  clear hcl
  refine lv_aload_n hx hb dX6_cross_9 rfl (lv_at hl 0 rfl) ?_
  refine lv_iload_n hx hb dX6_cross_10 rfl (lv_at hl 1 rfl) ?_
  refine lv_iload_n hx hb dX6_cross_11 rfl (lv_at hl 2 rfl) ?_
  refine lv_iload_n hx hb dX6_cross_12 rfl (lv_at hl 3 rfl) ?_
  refine lv_iload hx hb dX6_cross_13 (lv_at hl 5 rfl) ?_
  obtain ⟨r2, hcl, hm⟩ := bnd hm
  refine kVW C X (kX6_side l g a p1 p2 p3 p5 u r2 hcl) (cw_X6_cross_X6_side_213 C) 0 (ci := 6) rfl rfl (As := [.int p1, .int p2, .int p3, .int p5]) rfl hl (rest := [.int r1]) rfl (Nat.le_of_ble_eq_true rfl) (st2 := [.int r2, .int r1]) rfl dX6_cross_15 ⟨Nat.le_of_ble_eq_true rfl, Nat.le_of_ble_eq_true rfl⟩ (fun H locs X => ?_)
  clear hcl
  obtain ⟨r3, hcl, hm⟩ := bnd hm
  refine kS0 C X (kX6_areOpposite l g r1 r2 r3 hcl) (cw_X6_cross_X6_areOpposite_216 C) (As := [.int r1, .int r2]) rfl hl (rest := []) rfl (Nat.le_of_ble_eq_true rfl) (st2 := [.int r3]) rfl dX6_cross_18 ⟨Nat.le_of_ble_eq_true rfl, Nat.le_of_ble_eq_true rfl⟩ (fun H locs X => ?_)
  clear hcl
  obtain ⟨v7, hE, hm⟩ := bnd hm
  have K : ∀ (H : Heap) (locs : List Loc) (ls : Array Slot), ST g A s H locs (wM g a u) → lv_has ls 6 [] → W p l e rX6_cross s m args below meth c H locs 0 0 (kEnd g below args s (some (.int o1)) (wM g a u) A 0 0) (F0 m 55 ls [.int v7]) := by
    intro H locs ls X hl
    clear hE
    obtain ⟨hgb, hm⟩ := gd_t hm
    cases sm hm
    exact kzret (isb_n hgb) C X dX6_cross_55
  clear hm
  have hm := hE
  clear hE
  refine lv_if_eq (tgt := 54) hx hb dX6_cross_21 (by decide) (fun hc => ?_) (fun hc => ?_)
  · have hm := ifp hc hm
    refine lv_iconst (v := 0) hx hb dX6_cross_54 (by decide) ?_
    cases sm hm
    exact K _ _ _ X (lv_sub hl [] rfl)
  · have hm := ifn hc hm
    refine lv_aload_n hx hb dX6_cross_24 rfl (lv_at hl 0 rfl) ?_
    refine lv_iload_n hx hb dX6_cross_25 rfl (lv_at hl 1 rfl) ?_
    refine lv_iload hx hb dX6_cross_26 (lv_at hl 4 rfl) ?_
    refine lv_iload hx hb dX6_cross_28 (lv_at hl 5 rfl) ?_
    refine lv_iload_n hx hb dX6_cross_30 rfl (lv_at hl 2 rfl) ?_
    obtain ⟨r8, hcl, hm⟩ := bnd hm
    refine kVW C X (kX6_side l g a p1 p4 p5 p2 u r8 hcl) (cw_X6_cross_X6_side_213 C) 0 (ci := 6) rfl rfl (As := [.int p1, .int p4, .int p5, .int p2]) rfl hl (rest := []) rfl (Nat.le_of_ble_eq_true rfl) (st2 := [.int r8]) rfl dX6_cross_31 ⟨Nat.le_of_ble_eq_true rfl, Nat.le_of_ble_eq_true rfl⟩ (fun H locs X => ?_)
    clear hcl
    refine lv_aload_n hx hb dX6_cross_34 rfl (lv_at hl 0 rfl) ?_
    refine lv_iload_n hx hb dX6_cross_35 rfl (lv_at hl 1 rfl) ?_
    refine lv_iload hx hb dX6_cross_36 (lv_at hl 4 rfl) ?_
    refine lv_iload hx hb dX6_cross_38 (lv_at hl 5 rfl) ?_
    refine lv_iload_n hx hb dX6_cross_40 rfl (lv_at hl 3 rfl) ?_
    obtain ⟨r9, hcl, hm⟩ := bnd hm
    refine kVW C X (kX6_side l g a p1 p4 p5 p3 u r9 hcl) (cw_X6_cross_X6_side_213 C) 0 (ci := 6) rfl rfl (As := [.int p1, .int p4, .int p5, .int p3]) rfl hl (rest := [.int r8]) rfl (Nat.le_of_ble_eq_true rfl) (st2 := [.int r9, .int r8]) rfl dX6_cross_41 ⟨Nat.le_of_ble_eq_true rfl, Nat.le_of_ble_eq_true rfl⟩ (fun H locs X => ?_)
    clear hcl
    obtain ⟨r10, hcl, hm⟩ := bnd hm
    refine kS0 C X (kX6_areOpposite l g r8 r9 r10 hcl) (cw_X6_cross_X6_areOpposite_216 C) (As := [.int r8, .int r9]) rfl hl (rest := []) rfl (Nat.le_of_ble_eq_true rfl) (st2 := [.int r10]) rfl dX6_cross_44 ⟨Nat.le_of_ble_eq_true rfl, Nat.le_of_ble_eq_true rfl⟩ (fun H locs X => ?_)
    clear hcl
    refine lv_if_eq (tgt := 54) hx hb dX6_cross_47 (by decide) (fun hc => ?_) (fun hc => ?_)
    · have hm := ifp hc hm
      refine lv_iconst (v := 0) hx hb dX6_cross_54 (by decide) ?_
      cases sm hm
      exact K _ _ _ X (lv_sub hl [] rfl)
    · have hm := ifn hc hm
      refine lv_iconst (v := 1) hx hb dX6_cross_50 (by decide) ?_
      refine lv_goto (tgt := 55) hx hb dX6_cross_51 (by decide) ?_
      cases sm hm
      exact K _ _ _ X (lv_sub hl [] rfl)
-- X6 BrushStrokesModel.crossings(I)I
abbrev rX6_crossings : Room := { frames := 3, cells := 0, slots := 0, locals := 76 }
theorem fl_X6_crossings_35 : (Cond.fieldLink RX6 35 "BrushStrokesModel" "thrown" "I") ∈ wsX6_crossings := by decide +kernel
theorem in_X6_crossings_X6 : ∀ w ∈ u_ws RX6 TX6 16, w ∈ wsX6_crossings := by decide +kernel
theorem cw_X6_crossings_X6_cross_219 {p : Program} {s : State} {m : MethodId} {args : Array Value} {meth : Method} {c : Code} {g : kG} {A : Nat → Prop} (C : CT g p s m args meth c RX6 cX6_crossings 9 (some .int) wsX6_crossings A) : CallW rX6_crossings s args RX6 RX6 219 yX6_cross cX6_cross 6 (some .boolean) wsX6_cross rX6_cross 0 0 5 := cwV 5 C.2.2.2.2.2.1 gX6_crossings_X6_cross rfl rfl rfl (by decide +kernel) ⟨Nat.le_of_ble_eq_true rfl, Nat.le_of_ble_eq_true rfl⟩
theorem cw_X6_crossings_X6_behind_101 {p : Program} {s : State} {m : MethodId} {args : Array Value} {meth : Method} {c : Code} {g : kG} {A : Nat → Prop} (C : CT g p s m args meth c RX6 cX6_crossings 9 (some .int) wsX6_crossings A) : CallB rX6_crossings s args RX6 101 yX6_behind cX6_behind 3 (some .int) wsX6_behind rX6_behind 0 0 2 ∧ (Cond.static yX6_behind).before args s = true := cwS 2 C.2.2.2.2.2.1 gX6_crossings_X6_behind rfl rfl rfl (by decide +kernel) ⟨Nat.le_of_ble_eq_true rfl, Nat.le_of_ble_eq_true rfl⟩
theorem cw_X6_crossings_X6_keptOf_160 {p : Program} {s : State} {m : MethodId} {args : Array Value} {meth : Method} {c : Code} {g : kG} {A : Nat → Prop} (C : CT g p s m args meth c RX6 cX6_crossings 9 (some .int) wsX6_crossings A) : CallW rX6_crossings s args RX6 RX6 160 yX6_keptOf cX6_keptOf 2 (some .int) wsX6_keptOf rX6_keptOf 0 0 1 := cwV 1 C.2.2.2.2.2.1 gX6_crossings_X6_keptOf rfl rfl rfl (by decide +kernel) ⟨Nat.le_of_ble_eq_true rfl, Nat.le_of_ble_eq_true rfl⟩
theorem cw_X6_crossings_X6_isStroke_43 {p : Program} {s : State} {m : MethodId} {args : Array Value} {meth : Method} {c : Code} {g : kG} {A : Nat → Prop} (C : CT g p s m args meth c RX6 cX6_crossings 9 (some .int) wsX6_crossings A) : CallW rX6_crossings s args RX6 RX6 43 yX6_isStroke cX6_isStroke 2 (some .boolean) wsX6_isStroke rX6_isStroke 0 0 1 := cwV 1 C.2.2.2.2.2.1 gX6_crossings_X6_isStroke rfl rfl rfl (by decide +kernel) ⟨Nat.le_of_ble_eq_true rfl, Nat.le_of_ble_eq_true rfl⟩
theorem cw_X6_crossings_X6_points_47 {p : Program} {s : State} {m : MethodId} {args : Array Value} {meth : Method} {c : Code} {g : kG} {A : Nat → Prop} (C : CT g p s m args meth c RX6 cX6_crossings 9 (some .int) wsX6_crossings A) : CallW rX6_crossings s args RX6 RX6 47 yX6_points cX6_points 2 (some .int) wsX6_points rX6_points 0 0 1 := cwV 1 C.2.2.2.2.2.1 gX6_crossings_X6_points rfl rfl rfl (by decide +kernel) ⟨Nat.le_of_ble_eq_true rfl, Nat.le_of_ble_eq_true rfl⟩
noncomputable def bX6_crossings_78 (c17 : Int32) (c18 : Int32) (c19 : Int32) (c21 : Int32) (c22 : Int32) (w24 : MS) : Int32 × Int32 → Option ((Int32 × Int32) ⊕ (Int32))
  | (x20, x23) => if c19 ≤ x23 then (some (.inr x20)) else ((fX6_behind c18 x23).bind fun r26 => (fX6_cross c17 c21 c22 x23 r26 w24).bind fun r27 => ((if r27 = 0 then (some 0) else (some 1)) : Option (Int32)).bind fun v28 => some (.inl (x20 + v28, r26)))
noncomputable def lX6_crossings_78 (c17 : Int32) (c18 : Int32) (c19 : Int32) (c21 : Int32) (c22 : Int32) (w24 : MS) (x20 : Int32) (x23 : Int32) : Option (Int32) := lp (bX6_crossings_78 c17 c18 c19 c21 c22 w24) (x20, x23)
theorem lX6_crossings_78_eq (c17 : Int32) (c18 : Int32) (c19 : Int32) (c21 : Int32) (c22 : Int32) (w24 : MS) (x20 : Int32) (x23 : Int32) : lX6_crossings_78 c17 c18 c19 c21 c22 w24 x20 x23 = (if c19 ≤ x23 then (some (.inr x20)) else ((fX6_behind c18 x23).bind fun r26 => (fX6_cross c17 c21 c22 x23 r26 w24).bind fun r27 => ((if r27 = 0 then (some 0) else (some 1)) : Option (Int32)).bind fun v28 => some (.inl (x20 + v28, r26)))).bind fun r => Sum.elim (fun z => lX6_crossings_78 c17 c18 c19 c21 c22 w24 z.1 z.2) (fun r => some r) r := lp_eq (bX6_crossings_78 c17 c18 c19 c21 c22 w24) (x20, x23)
set_option maxRecDepth 100000 in
set_option maxHeartbeats 4000000 in
theorem tX6_crossings_78 {p : Program} {l : Launch} {e : Env} {s : State} {m : MethodId} {args : Array Value} {below : List Frame} {meth : Method} {c : Code} {g : kG} {A : Nat → Prop} {Q : State → Prop} (a : Nat → Nat) (C : CT g p s m args meth c RX6 cX6_crossings 9 (some .int) wsX6_crossings A) (c17 : Int32) (c18 : Int32) (c19 : Int32) (c21 : Int32) (c22 : Int32) (w24 : MS) (y25 : Int32) (kk : ∀ (H : Heap) (locs : List Loc) (ls : Array Slot), ST g A s H locs (wM g a w24) → lv_has ls 9 [(0, .ref (a 0)), (1, .int c17), (2, .int c18), (3, .int c19), (4, .int y25), (5, .int c21)] → W p l e rX6_crossings s m args below meth c H locs 0 0 Q (F0 m 125 ls [])) : ∀ (n : Nat) (x20 : Int32) (x23 : Int32), whl (bX6_crossings_78 c17 c18 c19 c21 c22 w24) n (x20, x23) = some y25 → ∀ (H : Heap) (locs : List Loc) (ls : Array Slot), ST g A s H locs (wM g a w24) → lv_has ls 9 [(0, .ref (a 0)), (1, .int c17), (2, .int c18), (3, .int c19), (4, .int x20), (5, .int c21), (6, .int c22), (7, .int x23)] → W p l e rX6_crossings s m args below meth c H locs 0 0 Q (F0 m 78 ls []) := by
  have hx := C.1
  have hb := C.2.1
  intro n
  induction n with
  | zero =>
    intro x20 x23 hm
    cases hm
  | succ n ih =>
    intro x20 x23 hm H locs ls X hl
    rw [whl] at hm
    obtain ⟨q, hq, hm2⟩ := bnd hm
    clear hm
    have hm := hq
    clear hq
    rw [bX6_crossings_78] at hm
    refine lv_iload hx hb dX6_crossings_78 (lv_at hl 7 rfl) ?_
    refine lv_iload_n hx hb dX6_crossings_80 rfl (lv_at hl 3 rfl) ?_
    refine lv_icmp_ge (tgt := 125) hx hb dX6_crossings_81 (by decide) (fun hc => ?_) (fun hc => ?_)
    · have hm := ifp hc hm
      cases sm hm
      cases sm hm2
      exact kk _ _ _ X (lv_sub hl [0, 1, 2, 3, 4, 5] rfl)
    · have hm := ifn hc hm
      refine lv_iload_n hx hb dX6_crossings_84 rfl (lv_at hl 2 rfl) ?_
      refine lv_iload hx hb dX6_crossings_85 (lv_at hl 7 rfl) ?_
      obtain ⟨r26, hcl, hm⟩ := bnd hm
      refine kS0 C X (kX6_behind l g c18 x23 r26 hcl) (cw_X6_crossings_X6_behind_101 C) (As := [.int c18, .int x23]) rfl hl (rest := []) rfl (Nat.le_of_ble_eq_true rfl) (st2 := [.int r26]) rfl dX6_crossings_87 ⟨Nat.le_of_ble_eq_true rfl, Nat.le_of_ble_eq_true rfl⟩ (fun H locs X => ?_)
      clear hcl
      refine lv_istore (lv' := [(8, .int r26), (0, .ref (a 0)), (1, .int c17), (2, .int c18), (3, .int c19), (4, .int x20), (5, .int c21), (6, .int c22), (7, .int x23)]) hx hb dX6_crossings_90 hl (by decide) rfl (fun ls hl => ?_)
      refine lv_iload hx hb dX6_crossings_92 (lv_at hl 5 rfl) ?_
      refine lv_aload_n hx hb dX6_crossings_94 rfl (lv_at hl 1 rfl) ?_
      refine lv_iload_n hx hb dX6_crossings_95 rfl (lv_at hl 2 rfl) ?_
      refine lv_iload hx hb dX6_crossings_96 (lv_at hl 6 rfl) ?_
      refine lv_iload hx hb dX6_crossings_98 (lv_at hl 7 rfl) ?_
      refine lv_iload hx hb dX6_crossings_100 (lv_at hl 8 rfl) ?_
      refine lv_iload hx hb dX6_crossings_102 (lv_at hl 0 rfl) ?_
      obtain ⟨r27, hcl, hm⟩ := bnd hm
      refine kVW C X (kX6_cross l g a c17 c21 c22 x23 r26 w24 r27 hcl) (cw_X6_crossings_X6_cross_219 C) 0 (ci := 6) rfl rfl (As := [.int c17, .int c21, .int c22, .int x23, .int r26]) rfl hl (rest := [.int x20]) rfl (Nat.le_of_ble_eq_true rfl) (st2 := [.int r27, .int x20]) rfl dX6_crossings_104 ⟨Nat.le_of_ble_eq_true rfl, Nat.le_of_ble_eq_true rfl⟩ (fun H locs X => ?_)
      clear hcl
      obtain ⟨v28, hE, hm⟩ := bnd hm
      have K : ∀ (H : Heap) (locs : List Loc) (ls : Array Slot), ST g A s H locs (wM g a w24) → lv_has ls 9 [(0, .ref (a 0)), (1, .int c17), (2, .int c18), (3, .int c19), (5, .int c21), (6, .int c22), (8, .int r26)] → W p l e rX6_crossings s m args below meth c H locs 0 0 Q (F0 m 115 ls [.int v28, .int x20]) := by
        intro H locs ls X hl
        clear hE
        refine lv_iadd hx hb dX6_crossings_115 ?_
        refine lv_istore (lv' := [(4, .int (x20 + v28)), (0, .ref (a 0)), (1, .int c17), (2, .int c18), (3, .int c19), (5, .int c21), (6, .int c22), (8, .int r26)]) hx hb dX6_crossings_116 hl (by decide) rfl (fun ls hl => ?_)
        refine lv_iload hx hb dX6_crossings_118 (lv_at hl 7 rfl) ?_
        refine lv_istore (lv' := [(7, .int r26), (4, .int (x20 + v28)), (0, .ref (a 0)), (1, .int c17), (2, .int c18), (3, .int c19), (5, .int c21), (6, .int c22), (8, .int r26)]) hx hb dX6_crossings_120 hl (by decide) rfl (fun ls hl => ?_)
        refine lv_goto (tgt := 78) hx hb dX6_crossings_122 (by decide) ?_
        cases sm hm
        exact ih _ _ hm2 _ _ _ X (lv_sub hl [2, 3, 4, 5, 1, 6, 7, 0] rfl)
      clear hm
      have hm := hE
      clear hE
      refine lv_if_eq (tgt := 114) hx hb dX6_crossings_107 (by decide) (fun hc => ?_) (fun hc => ?_)
      · have hm := ifp hc hm
        refine lv_iconst (v := 0) hx hb dX6_crossings_114 (by decide) ?_
        cases sm hm
        exact K _ _ _ X (lv_sub hl [1, 2, 3, 4, 6, 7, 0] rfl)
      · have hm := ifn hc hm
        refine lv_iconst (v := 1) hx hb dX6_crossings_110 (by decide) ?_
        refine lv_goto (tgt := 115) hx hb dX6_crossings_111 (by decide) ?_
        cases sm hm
        exact K _ _ _ X (lv_sub hl [1, 2, 3, 4, 6, 7, 0] rfl)
noncomputable def bX6_crossings_46 (c6 : Int32) (c7 : Int32) (c8 : Int32) (w11 : MS) : Int32 × Int32 → Option ((Int32 × Int32) ⊕ (Int32))
  | (x9, x10) => if c8 ≤ x10 then (some (.inr x9)) else ((fX6_behind c7 x10).bind fun r13 => ((if c8 ≤ r13 then (some c8) else ((fX6_behind c7 r13).bind fun r16 => some r16)) : Option (Int32)).bind fun v15 => (lX6_crossings_78 c6 c7 c8 x10 r13 w11 x9 v15).bind fun y29 => (fX6_behind c7 x10).bind fun r30 => some (.inl (y29, r30)))
noncomputable def lX6_crossings_46 (c6 : Int32) (c7 : Int32) (c8 : Int32) (w11 : MS) (x9 : Int32) (x10 : Int32) : Option (Int32) := lp (bX6_crossings_46 c6 c7 c8 w11) (x9, x10)
theorem lX6_crossings_46_eq (c6 : Int32) (c7 : Int32) (c8 : Int32) (w11 : MS) (x9 : Int32) (x10 : Int32) : lX6_crossings_46 c6 c7 c8 w11 x9 x10 = (if c8 ≤ x10 then (some (.inr x9)) else ((fX6_behind c7 x10).bind fun r13 => ((if c8 ≤ r13 then (some c8) else ((fX6_behind c7 r13).bind fun r16 => some r16)) : Option (Int32)).bind fun v15 => (lX6_crossings_78 c6 c7 c8 x10 r13 w11 x9 v15).bind fun y29 => (fX6_behind c7 x10).bind fun r30 => some (.inl (y29, r30)))).bind fun r => Sum.elim (fun z => lX6_crossings_46 c6 c7 c8 w11 z.1 z.2) (fun r => some r) r := lp_eq (bX6_crossings_46 c6 c7 c8 w11) (x9, x10)
set_option maxRecDepth 100000 in
set_option maxHeartbeats 4000000 in
theorem tX6_crossings_46 {p : Program} {l : Launch} {e : Env} {s : State} {m : MethodId} {args : Array Value} {below : List Frame} {meth : Method} {c : Code} {g : kG} {A : Nat → Prop} {Q : State → Prop} (a : Nat → Nat) (C : CT g p s m args meth c RX6 cX6_crossings 9 (some .int) wsX6_crossings A) (c6 : Int32) (c7 : Int32) (c8 : Int32) (w11 : MS) (y12 : Int32) (kk : ∀ (H : Heap) (locs : List Loc) (ls : Array Slot), ST g A s H locs (wM g a w11) → lv_has ls 9 [(4, .int y12)] → W p l e rX6_crossings s m args below meth c H locs 0 0 Q (F0 m 136 ls [])) : ∀ (n : Nat) (x9 : Int32) (x10 : Int32), whl (bX6_crossings_46 c6 c7 c8 w11) n (x9, x10) = some y12 → ∀ (H : Heap) (locs : List Loc) (ls : Array Slot), ST g A s H locs (wM g a w11) → lv_has ls 9 [(0, .ref (a 0)), (1, .int c6), (2, .int c7), (3, .int c8), (4, .int x9), (5, .int x10)] → W p l e rX6_crossings s m args below meth c H locs 0 0 Q (F0 m 46 ls []) := by
  have hx := C.1
  have hb := C.2.1
  intro n
  induction n with
  | zero =>
    intro x9 x10 hm
    cases hm
  | succ n ih =>
    intro x9 x10 hm H locs ls X hl
    rw [whl] at hm
    obtain ⟨q, hq, hm2⟩ := bnd hm
    clear hm
    have hm := hq
    clear hq
    rw [bX6_crossings_46] at hm
    refine lv_iload hx hb dX6_crossings_46 (lv_at hl 5 rfl) ?_
    refine lv_iload_n hx hb dX6_crossings_48 rfl (lv_at hl 3 rfl) ?_
    refine lv_icmp_ge (tgt := 136) hx hb dX6_crossings_49 (by decide) (fun hc => ?_) (fun hc => ?_)
    · have hm := ifp hc hm
      cases sm hm
      cases sm hm2
      exact kk _ _ _ X (lv_sub hl [4] rfl)
    · have hm := ifn hc hm
      refine lv_iload_n hx hb dX6_crossings_52 rfl (lv_at hl 2 rfl) ?_
      refine lv_iload hx hb dX6_crossings_53 (lv_at hl 5 rfl) ?_
      obtain ⟨r13, hcl, hm⟩ := bnd hm
      refine kS0 C X (kX6_behind l g c7 x10 r13 hcl) (cw_X6_crossings_X6_behind_101 C) (As := [.int c7, .int x10]) rfl hl (rest := []) rfl (Nat.le_of_ble_eq_true rfl) (st2 := [.int r13]) rfl dX6_crossings_55 ⟨Nat.le_of_ble_eq_true rfl, Nat.le_of_ble_eq_true rfl⟩ (fun H locs X => ?_)
      clear hcl
      refine lv_istore (lv' := [(6, .int r13), (0, .ref (a 0)), (1, .int c6), (2, .int c7), (3, .int c8), (4, .int x9), (5, .int x10)]) hx hb dX6_crossings_58 hl (by decide) rfl (fun ls hl => ?_)
      refine lv_iload hx hb dX6_crossings_60 (lv_at hl 0 rfl) ?_
      refine lv_iload_n hx hb dX6_crossings_62 rfl (lv_at hl 4 rfl) ?_
      obtain ⟨v15, hE, hm⟩ := bnd hm
      have K : ∀ (H : Heap) (locs : List Loc) (ls : Array Slot), ST g A s H locs (wM g a w11) → lv_has ls 9 [(0, .ref (a 0)), (1, .int c6), (2, .int c7), (3, .int c8), (4, .int x9), (5, .int x10), (6, .int r13)] → W p l e rX6_crossings s m args below meth c H locs 0 0 Q (F0 m 76 ls [.int v15]) := by
        intro H locs ls X hl
        clear hE
        refine lv_istore (lv' := [(7, .int v15), (0, .ref (a 0)), (1, .int c6), (2, .int c7), (3, .int c8), (4, .int x9), (5, .int x10), (6, .int r13)]) hx hb dX6_crossings_76 hl (by decide) rfl (fun ls hl => ?_)
        obtain ⟨y29, hL, hm⟩ := bnd hm
        obtain ⟨nn, hn⟩ := lp_run hL
        refine tX6_crossings_78 a C c6 c7 c8 x10 r13 w11 y29 (fun H locs ls X hl => ?_) nn _ _ hn _ _ _ X (lv_sub hl [1, 2, 3, 4, 5, 6, 7, 0] rfl)
        clear hL hn
        refine lv_iload_n hx hb dX6_crossings_125 rfl (lv_at hl 2 rfl) ?_
        refine lv_iload hx hb dX6_crossings_126 (lv_at hl 5 rfl) ?_
        obtain ⟨r30, hcl, hm⟩ := bnd hm
        refine kS0 C X (kX6_behind l g c7 x10 r30 hcl) (cw_X6_crossings_X6_behind_101 C) (As := [.int c7, .int x10]) rfl hl (rest := []) rfl (Nat.le_of_ble_eq_true rfl) (st2 := [.int r30]) rfl dX6_crossings_128 ⟨Nat.le_of_ble_eq_true rfl, Nat.le_of_ble_eq_true rfl⟩ (fun H locs X => ?_)
        clear hcl
        refine lv_istore (lv' := [(5, .int r30), (0, .ref (a 0)), (1, .int c6), (2, .int c7), (3, .int c8), (4, .int y29)]) hx hb dX6_crossings_131 hl (by decide) rfl (fun ls hl => ?_)
        refine lv_goto (tgt := 46) hx hb dX6_crossings_133 (by decide) ?_
        cases sm hm
        exact ih _ _ hm2 _ _ _ X (lv_sub hl [1, 2, 3, 4, 5, 0] rfl)
      clear hm
      have hm := hE
      clear hE
      refine lv_icmp_ge (tgt := 75) hx hb dX6_crossings_63 (by decide) (fun hc => ?_) (fun hc => ?_)
      · have hm := ifp hc hm
        refine lv_iload_n hx hb dX6_crossings_75 rfl (lv_at hl 4 rfl) ?_
        cases sm hm
        exact K _ _ _ X (lv_sub hl [1, 2, 3, 4, 5, 6, 0] rfl)
      · have hm := ifn hc hm
        refine lv_iload_n hx hb dX6_crossings_66 rfl (lv_at hl 3 rfl) ?_
        refine lv_iload hx hb dX6_crossings_67 (lv_at hl 0 rfl) ?_
        obtain ⟨r16, hcl, hm⟩ := bnd hm
        refine kS0 C X (kX6_behind l g c7 r13 r16 hcl) (cw_X6_crossings_X6_behind_101 C) (As := [.int c7, .int r13]) rfl hl (rest := []) rfl (Nat.le_of_ble_eq_true rfl) (st2 := [.int r16]) rfl dX6_crossings_69 ⟨Nat.le_of_ble_eq_true rfl, Nat.le_of_ble_eq_true rfl⟩ (fun H locs X => ?_)
        clear hcl
        refine lv_goto (tgt := 76) hx hb dX6_crossings_72 (by decide) ?_
        cases sm hm
        exact K _ _ _ X (lv_sub hl [1, 2, 3, 4, 5, 6, 0] rfl)
noncomputable def fX6_crossings (p1 : Int32) (u : MS) : Option (Int32 × MS) := (fX6_isStroke p1 u).bind fun r1 => ((if r1 = 0 then (some 1) else (some 0)) : Option (Int32)).bind fun v2 => lt (M_s_thrown u v2) fun u3 => if (M_thrown u3) ≤ 0 then ((fX6_keptOf p1 u3).bind fun r4 => (fX6_points p1 u3).bind fun r5 => (lX6_crossings_46 p1 r4 (r5 - 1) u3 0 0).bind fun y31 => some (y31, u3)) else (some (0, u3))
set_option maxRecDepth 100000 in
set_option maxHeartbeats 4000000 in
theorem kX6_crossings (l : Launch) (g : kG) (a : Nat → Nat) (p1 : Int32) (u : MS) (o1 : Int32) (o2 : MS) (hm : fX6_crossings p1 u = some (o1, o2)) : KM l yX6_crossings wsX6_crossings rX6_crossings g [.ref (a 0), .int p1] (wM g a u) (some (.int o1)) (wM g a o2) 0 0 := by
  refine KM.of (nL := 9) (by decide) rfl (Nat.le_of_ble_eq_true rfl) ?_
  intro p e s m args below meth c A ls C X hl
  have C : CT g p s m args meth c RX6 cX6_crossings 9 (some .int) wsX6_crossings A := C
  have hx := C.1
  have hb := C.2.1
  have hl : lv_has ls 9 [(0, .ref (a 0)), (1, .int p1)] := hl
  have hinX6 := in_X6_crossings_X6
  have hf35 := C.2.2.2.2.2.1 _ fl_X6_crossings_35
  rw [fX6_crossings] at hm
  refine lv_aload_n hx hb dX6_crossings_0 rfl (lv_at hl 0 rfl) ?_
  refine lv_aload_n hx hb dX6_crossings_1 rfl (lv_at hl 0 rfl) ?_
  refine lv_iload_n hx hb dX6_crossings_2 rfl (lv_at hl 1 rfl) ?_
  obtain ⟨r1, hcl, hm⟩ := bnd hm
  refine kVW C X (kX6_isStroke l g a p1 u r1 hcl) (cw_X6_crossings_X6_isStroke_43 C) 0 (ci := 6) rfl rfl (As := [.int p1]) rfl hl (rest := [.ref (a 0)]) rfl (Nat.le_of_ble_eq_true rfl) (st2 := [.int r1, .ref (a 0)]) rfl dX6_crossings_3 ⟨Nat.le_of_ble_eq_true rfl, Nat.le_of_ble_eq_true rfl⟩ (fun H locs X => ?_)
  clear hcl
  obtain ⟨v2, hE, hm⟩ := bnd hm
  have K : ∀ (H : Heap) (locs : List Loc) (ls : Array Slot), ST g A s H locs (wM g a u) → lv_has ls 9 [(0, .ref (a 0)), (1, .int p1)] → W p l e rX6_crossings s m args below meth c H locs 0 0 (kEnd g below args s (some (.int o1)) (wM g a o2) A 0 0) (F0 m 14 ls [.int v2, .ref (a 0)]) := by
    intro H locs ls X hl
    clear hE
    obtain ⟨u3, eu⟩ : ∃ z, z = M_s_thrown u v2 := ⟨_, rfl⟩
    have hm := lt_t eu hm
    refine kput C X 0 (ci := 6) rfl rfl hinX6 tyX6_ok nmX6 0 (by decide) hf35 rfl (ty := .int) (v := .int v2) rfl rfl rfl (Nat.le_of_ble_eq_true rfl) (w2 := wM g a u3) (by subst eu; rfl) dX6_crossings_14 (fun H locs X => ?_)
    clear eu
    refine lv_aload_n hx hb dX6_crossings_17 rfl (lv_at hl 0 rfl) ?_
    refine kget C X 0 (ci := 6) rfl rfl hinX6 0 (by decide) hf35 (v := .int (M_thrown u3)) rfl dX6_crossings_18 ?_
    refine lv_if_le (tgt := 26) hx hb dX6_crossings_21 (by decide) (fun hc => ?_) (fun hc => ?_)
    · have hm := ifp hc hm
      refine lv_aload_n hx hb dX6_crossings_26 rfl (lv_at hl 0 rfl) ?_
      refine lv_iload_n hx hb dX6_crossings_27 rfl (lv_at hl 1 rfl) ?_
      obtain ⟨r4, hcl, hm⟩ := bnd hm
      refine kVW C X (kX6_keptOf l g a p1 u3 r4 hcl) (cw_X6_crossings_X6_keptOf_160 C) 0 (ci := 6) rfl rfl (As := [.int p1]) rfl hl (rest := []) rfl (Nat.le_of_ble_eq_true rfl) (st2 := [.int r4]) rfl dX6_crossings_28 ⟨Nat.le_of_ble_eq_true rfl, Nat.le_of_ble_eq_true rfl⟩ (fun H locs X => ?_)
      clear hcl
      refine lv_istore_n (lv' := [(2, .int r4), (0, .ref (a 0)), (1, .int p1)]) hx hb dX6_crossings_31 rfl hl (by decide) rfl (fun ls hl => ?_)
      refine lv_aload_n hx hb dX6_crossings_32 rfl (lv_at hl 1 rfl) ?_
      refine lv_iload_n hx hb dX6_crossings_33 rfl (lv_at hl 2 rfl) ?_
      obtain ⟨r5, hcl, hm⟩ := bnd hm
      refine kVW C X (kX6_points l g a p1 u3 r5 hcl) (cw_X6_crossings_X6_points_47 C) 0 (ci := 6) rfl rfl (As := [.int p1]) rfl hl (rest := []) rfl (Nat.le_of_ble_eq_true rfl) (st2 := [.int r5]) rfl dX6_crossings_34 ⟨Nat.le_of_ble_eq_true rfl, Nat.le_of_ble_eq_true rfl⟩ (fun H locs X => ?_)
      clear hcl
      refine lv_iconst (v := 1) hx hb dX6_crossings_37 (by decide) ?_
      refine lv_isub hx hb dX6_crossings_38 ?_
      refine lv_istore_n (lv' := [(3, .int (r5 - 1)), (2, .int r4), (0, .ref (a 0)), (1, .int p1)]) hx hb dX6_crossings_39 rfl hl (by decide) rfl (fun ls hl => ?_)
      refine lv_iconst (v := 0) hx hb dX6_crossings_40 (by decide) ?_
      refine lv_istore (lv' := [(4, .int 0), (3, .int (r5 - 1)), (2, .int r4), (0, .ref (a 0)), (1, .int p1)]) hx hb dX6_crossings_41 hl (by decide) rfl (fun ls hl => ?_)
      refine lv_iconst (v := 0) hx hb dX6_crossings_43 (by decide) ?_
      refine lv_istore (lv' := [(5, .int 0), (4, .int 0), (3, .int (r5 - 1)), (2, .int r4), (0, .ref (a 0)), (1, .int p1)]) hx hb dX6_crossings_44 hl (by decide) rfl (fun ls hl => ?_)
      obtain ⟨y31, hL, hm⟩ := bnd hm
      obtain ⟨nn, hn⟩ := lp_run hL
      refine tX6_crossings_46 a C p1 r4 (r5 - 1) u3 y31 (fun H locs ls X hl => ?_) nn _ _ hn _ _ _ X (lv_sub hl [4, 5, 3, 2, 1, 0] rfl)
      clear hL hn
      refine lv_iload hx hb dX6_crossings_136 (lv_at hl 0 rfl) ?_
      cases sm hm
      exact kiret C X dX6_crossings_138
    · have hm := ifn hc hm
      refine lv_iconst (v := 0) hx hb dX6_crossings_24 (by decide) ?_
      cases sm hm
      exact kiret C X dX6_crossings_25
  clear hm
  have hm := hE
  clear hE
  refine lv_if_eq (tgt := 13) hx hb dX6_crossings_6 (by decide) (fun hc => ?_) (fun hc => ?_)
  · have hm := ifp hc hm
    refine lv_iconst (v := 1) hx hb dX6_crossings_13 (by decide) ?_
    cases sm hm
    exact K _ _ _ X (lv_sub hl [0, 1] rfl)
  · have hm := ifn hc hm
    refine lv_iconst (v := 0) hx hb dX6_crossings_9 (by decide) ?_
    refine lv_goto (tgt := 14) hx hb dX6_crossings_10 (by decide) ?_
    cases sm hm
    exact K _ _ _ X (lv_sub hl [0, 1] rfl)
-- X6 BrushStrokesModel.allPoints()I
abbrev rX6_allPoints : Room := { frames := 1, cells := 0, slots := 0, locals := 21 }
theorem fl_X6_allPoints_7 : (Cond.fieldLink RX6 7 "BrushStrokesModel" "z" "[I") ∈ wsX6_allPoints := by decide +kernel
theorem in_X6_allPoints_X6 : ∀ w ∈ u_ws RX6 TX6 16, w ∈ wsX6_allPoints := by decide +kernel
theorem cw_X6_allPoints_X6_points_47 {p : Program} {s : State} {m : MethodId} {args : Array Value} {meth : Method} {c : Code} {g : kG} {A : Nat → Prop} (C : CT g p s m args meth c RX6 cX6_allPoints 3 (some .int) wsX6_allPoints A) : CallW rX6_allPoints s args RX6 RX6 47 yX6_points cX6_points 2 (some .int) wsX6_points rX6_points 0 0 1 := cwV 1 C.2.2.2.2.2.1 gX6_allPoints_X6_points rfl rfl rfl (by decide +kernel) ⟨Nat.le_of_ble_eq_true rfl, Nat.le_of_ble_eq_true rfl⟩
noncomputable def bX6_allPoints_4 (w3 : MS) : Int32 × Int32 → Option ((Int32 × Int32) ⊕ (Int32))
  | (x1, x2) => gd (inb 296 303) (if (M_z w3 (296 : Int32).toNatClampNeg) ≤ x2 then (some (.inr x1)) else ((fX6_points x2 w3).bind fun r5 => some (.inl (x1 + r5, x2 + 1))))
noncomputable def lX6_allPoints_4 (w3 : MS) (x1 : Int32) (x2 : Int32) : Option (Int32) := lp (bX6_allPoints_4 w3) (x1, x2)
theorem lX6_allPoints_4_eq (w3 : MS) (x1 : Int32) (x2 : Int32) : lX6_allPoints_4 w3 x1 x2 = (gd (inb 296 303) (if (M_z w3 (296 : Int32).toNatClampNeg) ≤ x2 then (some (.inr x1)) else ((fX6_points x2 w3).bind fun r5 => some (.inl (x1 + r5, x2 + 1))))).bind fun r => Sum.elim (fun z => lX6_allPoints_4 w3 z.1 z.2) (fun r => some r) r := lp_eq (bX6_allPoints_4 w3) (x1, x2)
set_option maxRecDepth 100000 in
set_option maxHeartbeats 4000000 in
theorem tX6_allPoints_4 {p : Program} {l : Launch} {e : Env} {s : State} {m : MethodId} {args : Array Value} {below : List Frame} {meth : Method} {c : Code} {g : kG} {A : Nat → Prop} {Q : State → Prop} (a : Nat → Nat) (C : CT g p s m args meth c RX6 cX6_allPoints 3 (some .int) wsX6_allPoints A) (w3 : MS) (y4 : Int32) (kk : ∀ (H : Heap) (locs : List Loc) (ls : Array Slot), ST g A s H locs (wM g a w3) → lv_has ls 3 [(1, .int y4)] → W p l e rX6_allPoints s m args below meth c H locs 0 0 Q (F0 m 30 ls [])) : ∀ (n : Nat) (x1 : Int32) (x2 : Int32), whl (bX6_allPoints_4 w3) n (x1, x2) = some y4 → ∀ (H : Heap) (locs : List Loc) (ls : Array Slot), ST g A s H locs (wM g a w3) → lv_has ls 3 [(0, .ref (a 0)), (1, .int x1), (2, .int x2)] → W p l e rX6_allPoints s m args below meth c H locs 0 0 Q (F0 m 4 ls []) := by
  have hx := C.1
  have hb := C.2.1
  have hinX6 := in_X6_allPoints_X6
  have hf7 := C.2.2.2.2.2.1 _ fl_X6_allPoints_7
  intro n
  induction n with
  | zero =>
    intro x1 x2 hm
    cases hm
  | succ n ih =>
    intro x1 x2 hm H locs ls X hl
    rw [whl] at hm
    obtain ⟨q, hq, hm2⟩ := bnd hm
    clear hm
    have hm := hq
    clear hq
    rw [bX6_allPoints_4] at hm
    refine lv_iload_n hx hb dX6_allPoints_4 rfl (lv_at hl 2 rfl) ?_
    refine lv_aload_n hx hb dX6_allPoints_5 rfl (lv_at hl 0 rfl) ?_
    refine kget C X 0 (ci := 6) rfl rfl hinX6 1 (by decide) hf7 (v := .ref (a 1)) rfl dX6_allPoints_6 ?_
    refine lv_sipush (v := 296) hx hb dX6_allPoints_9 (by decide) ?_
    obtain ⟨hgi, hm⟩ := gd_t hm
    refine kiald C X 1 rfl hgi dX6_allPoints_12 ?_
    refine lv_icmp_ge (tgt := 30) hx hb dX6_allPoints_13 (by decide) (fun hc => ?_) (fun hc => ?_)
    · have hm := ifp hc hm
      cases sm hm
      cases sm hm2
      exact kk _ _ _ X (lv_sub hl [1] rfl)
    · have hm := ifn hc hm
      refine lv_iload_n hx hb dX6_allPoints_16 rfl (lv_at hl 1 rfl) ?_
      refine lv_aload_n hx hb dX6_allPoints_17 rfl (lv_at hl 0 rfl) ?_
      refine lv_iload_n hx hb dX6_allPoints_18 rfl (lv_at hl 2 rfl) ?_
      obtain ⟨r5, hcl, hm⟩ := bnd hm
      refine kVW C X (kX6_points l g a x2 w3 r5 hcl) (cw_X6_allPoints_X6_points_47 C) 0 (ci := 6) rfl rfl (As := [.int x2]) rfl hl (rest := [.int x1]) rfl (Nat.le_of_ble_eq_true rfl) (st2 := [.int r5, .int x1]) rfl dX6_allPoints_19 ⟨Nat.le_of_ble_eq_true rfl, Nat.le_of_ble_eq_true rfl⟩ (fun H locs X => ?_)
      clear hcl
      refine lv_iadd hx hb dX6_allPoints_22 ?_
      refine lv_istore_n (lv' := [(1, .int (x1 + r5)), (0, .ref (a 0)), (2, .int x2)]) hx hb dX6_allPoints_23 rfl hl (by decide) rfl (fun ls hl => ?_)
      refine lv_iinc (v := x2 + 1) (lv' := [(2, .int (x2 + 1)), (1, .int (x1 + r5)), (0, .ref (a 0))]) hx hb dX6_allPoints_24 hl (k := 2) rfl rfl (by decide) rfl (fun ls hl => ?_)
      refine lv_goto (tgt := 4) hx hb dX6_allPoints_27 (by decide) ?_
      cases sm hm
      exact ih _ _ hm2 _ _ _ X (lv_sub hl [2, 1, 0] rfl)
noncomputable def fX6_allPoints (u : MS) : Option (Int32) := (lX6_allPoints_4 u 0 0).bind fun y6 => some y6
set_option maxRecDepth 100000 in
set_option maxHeartbeats 4000000 in
theorem kX6_allPoints (l : Launch) (g : kG) (a : Nat → Nat) (u : MS) (o1 : Int32) (hm : fX6_allPoints u = some o1) : KM l yX6_allPoints wsX6_allPoints rX6_allPoints g [.ref (a 0)] (wM g a u) (some (.int o1)) (wM g a u) 0 0 := by
  refine KM.of (nL := 3) (by decide) rfl (Nat.le_of_ble_eq_true rfl) ?_
  intro p e s m args below meth c A ls C X hl
  have C : CT g p s m args meth c RX6 cX6_allPoints 3 (some .int) wsX6_allPoints A := C
  have hx := C.1
  have hb := C.2.1
  have hl : lv_has ls 3 [(0, .ref (a 0))] := hl
  rw [fX6_allPoints] at hm
  refine lv_iconst (v := 0) hx hb dX6_allPoints_0 (by decide) ?_
  refine lv_istore_n (lv' := [(1, .int 0), (0, .ref (a 0))]) hx hb dX6_allPoints_1 rfl hl (by decide) rfl (fun ls hl => ?_)
  refine lv_iconst (v := 0) hx hb dX6_allPoints_2 (by decide) ?_
  refine lv_istore_n (lv' := [(2, .int 0), (1, .int 0), (0, .ref (a 0))]) hx hb dX6_allPoints_3 rfl hl (by decide) rfl (fun ls hl => ?_)
  obtain ⟨y6, hL, hm⟩ := bnd hm
  obtain ⟨nn, hn⟩ := lp_run hL
  refine tX6_allPoints_4 a C u y6 (fun H locs ls X hl => ?_) nn _ _ hn _ _ _ X (lv_sub hl [2, 1, 0] rfl)
  clear hL hn
  refine lv_iload_n hx hb dX6_allPoints_30 rfl (lv_at hl 0 rfl) ?_
  cases sm hm
  exact kiret C X dX6_allPoints_31
-- X6 BrushStrokesModel.allKept()I
abbrev rX6_allKept : Room := { frames := 1, cells := 0, slots := 0, locals := 22 }
theorem fl_X6_allKept_7 : (Cond.fieldLink RX6 7 "BrushStrokesModel" "z" "[I") ∈ wsX6_allKept := by decide +kernel
theorem in_X6_allKept_X6 : ∀ w ∈ u_ws RX6 TX6 16, w ∈ wsX6_allKept := by decide +kernel
theorem cw_X6_allKept_X6_keptOf_160 {p : Program} {s : State} {m : MethodId} {args : Array Value} {meth : Method} {c : Code} {g : kG} {A : Nat → Prop} (C : CT g p s m args meth c RX6 cX6_allKept 3 (some .int) wsX6_allKept A) : CallW rX6_allKept s args RX6 RX6 160 yX6_keptOf cX6_keptOf 2 (some .int) wsX6_keptOf rX6_keptOf 0 0 1 := cwV 1 C.2.2.2.2.2.1 gX6_allKept_X6_keptOf rfl rfl rfl (by decide +kernel) ⟨Nat.le_of_ble_eq_true rfl, Nat.le_of_ble_eq_true rfl⟩
theorem cw_X6_allKept_X6_ones_157 {p : Program} {s : State} {m : MethodId} {args : Array Value} {meth : Method} {c : Code} {g : kG} {A : Nat → Prop} (C : CT g p s m args meth c RX6 cX6_allKept 3 (some .int) wsX6_allKept A) : CallB rX6_allKept s args RX6 157 yX6_ones cX6_ones 3 (some .int) wsX6_ones rX6_ones 0 0 1 ∧ (Cond.static yX6_ones).before args s = true := cwS 1 C.2.2.2.2.2.1 gX6_allKept_X6_ones rfl rfl rfl (by decide +kernel) ⟨Nat.le_of_ble_eq_true rfl, Nat.le_of_ble_eq_true rfl⟩
noncomputable def bX6_allKept_4 (w3 : MS) : Int32 × Int32 → Option ((Int32 × Int32) ⊕ (Int32))
  | (x1, x2) => gd (inb 296 303) (if (M_z w3 (296 : Int32).toNatClampNeg) ≤ x2 then (some (.inr x1)) else ((fX6_keptOf x2 w3).bind fun r5 => (fX6_ones r5).bind fun r6 => some (.inl (x1 + r6, x2 + 1))))
noncomputable def lX6_allKept_4 (w3 : MS) (x1 : Int32) (x2 : Int32) : Option (Int32) := lp (bX6_allKept_4 w3) (x1, x2)
theorem lX6_allKept_4_eq (w3 : MS) (x1 : Int32) (x2 : Int32) : lX6_allKept_4 w3 x1 x2 = (gd (inb 296 303) (if (M_z w3 (296 : Int32).toNatClampNeg) ≤ x2 then (some (.inr x1)) else ((fX6_keptOf x2 w3).bind fun r5 => (fX6_ones r5).bind fun r6 => some (.inl (x1 + r6, x2 + 1))))).bind fun r => Sum.elim (fun z => lX6_allKept_4 w3 z.1 z.2) (fun r => some r) r := lp_eq (bX6_allKept_4 w3) (x1, x2)
set_option maxRecDepth 100000 in
set_option maxHeartbeats 4000000 in
theorem tX6_allKept_4 {p : Program} {l : Launch} {e : Env} {s : State} {m : MethodId} {args : Array Value} {below : List Frame} {meth : Method} {c : Code} {g : kG} {A : Nat → Prop} {Q : State → Prop} (a : Nat → Nat) (C : CT g p s m args meth c RX6 cX6_allKept 3 (some .int) wsX6_allKept A) (w3 : MS) (y4 : Int32) (kk : ∀ (H : Heap) (locs : List Loc) (ls : Array Slot), ST g A s H locs (wM g a w3) → lv_has ls 3 [(1, .int y4)] → W p l e rX6_allKept s m args below meth c H locs 0 0 Q (F0 m 33 ls [])) : ∀ (n : Nat) (x1 : Int32) (x2 : Int32), whl (bX6_allKept_4 w3) n (x1, x2) = some y4 → ∀ (H : Heap) (locs : List Loc) (ls : Array Slot), ST g A s H locs (wM g a w3) → lv_has ls 3 [(0, .ref (a 0)), (1, .int x1), (2, .int x2)] → W p l e rX6_allKept s m args below meth c H locs 0 0 Q (F0 m 4 ls []) := by
  have hx := C.1
  have hb := C.2.1
  have hinX6 := in_X6_allKept_X6
  have hf7 := C.2.2.2.2.2.1 _ fl_X6_allKept_7
  intro n
  induction n with
  | zero =>
    intro x1 x2 hm
    cases hm
  | succ n ih =>
    intro x1 x2 hm H locs ls X hl
    rw [whl] at hm
    obtain ⟨q, hq, hm2⟩ := bnd hm
    clear hm
    have hm := hq
    clear hq
    rw [bX6_allKept_4] at hm
    refine lv_iload_n hx hb dX6_allKept_4 rfl (lv_at hl 2 rfl) ?_
    refine lv_aload_n hx hb dX6_allKept_5 rfl (lv_at hl 0 rfl) ?_
    refine kget C X 0 (ci := 6) rfl rfl hinX6 1 (by decide) hf7 (v := .ref (a 1)) rfl dX6_allKept_6 ?_
    refine lv_sipush (v := 296) hx hb dX6_allKept_9 (by decide) ?_
    obtain ⟨hgi, hm⟩ := gd_t hm
    refine kiald C X 1 rfl hgi dX6_allKept_12 ?_
    refine lv_icmp_ge (tgt := 33) hx hb dX6_allKept_13 (by decide) (fun hc => ?_) (fun hc => ?_)
    · have hm := ifp hc hm
      cases sm hm
      cases sm hm2
      exact kk _ _ _ X (lv_sub hl [1] rfl)
    · have hm := ifn hc hm
      refine lv_iload_n hx hb dX6_allKept_16 rfl (lv_at hl 1 rfl) ?_
      refine lv_aload_n hx hb dX6_allKept_17 rfl (lv_at hl 0 rfl) ?_
      refine lv_iload_n hx hb dX6_allKept_18 rfl (lv_at hl 2 rfl) ?_
      obtain ⟨r5, hcl, hm⟩ := bnd hm
      refine kVW C X (kX6_keptOf l g a x2 w3 r5 hcl) (cw_X6_allKept_X6_keptOf_160 C) 0 (ci := 6) rfl rfl (As := [.int x2]) rfl hl (rest := [.int x1]) rfl (Nat.le_of_ble_eq_true rfl) (st2 := [.int r5, .int x1]) rfl dX6_allKept_19 ⟨Nat.le_of_ble_eq_true rfl, Nat.le_of_ble_eq_true rfl⟩ (fun H locs X => ?_)
      clear hcl
      obtain ⟨r6, hcl, hm⟩ := bnd hm
      refine kS0 C X (kX6_ones l g r5 r6 hcl) (cw_X6_allKept_X6_ones_157 C) (As := [.int r5]) rfl hl (rest := [.int x1]) rfl (Nat.le_of_ble_eq_true rfl) (st2 := [.int r6, .int x1]) rfl dX6_allKept_22 ⟨Nat.le_of_ble_eq_true rfl, Nat.le_of_ble_eq_true rfl⟩ (fun H locs X => ?_)
      clear hcl
      refine lv_iadd hx hb dX6_allKept_25 ?_
      refine lv_istore_n (lv' := [(1, .int (x1 + r6)), (0, .ref (a 0)), (2, .int x2)]) hx hb dX6_allKept_26 rfl hl (by decide) rfl (fun ls hl => ?_)
      refine lv_iinc (v := x2 + 1) (lv' := [(2, .int (x2 + 1)), (1, .int (x1 + r6)), (0, .ref (a 0))]) hx hb dX6_allKept_27 hl (k := 2) rfl rfl (by decide) rfl (fun ls hl => ?_)
      refine lv_goto (tgt := 4) hx hb dX6_allKept_30 (by decide) ?_
      cases sm hm
      exact ih _ _ hm2 _ _ _ X (lv_sub hl [2, 1, 0] rfl)
noncomputable def fX6_allKept (u : MS) : Option (Int32) := (lX6_allKept_4 u 0 0).bind fun y7 => some y7
set_option maxRecDepth 100000 in
set_option maxHeartbeats 4000000 in
theorem kX6_allKept (l : Launch) (g : kG) (a : Nat → Nat) (u : MS) (o1 : Int32) (hm : fX6_allKept u = some o1) : KM l yX6_allKept wsX6_allKept rX6_allKept g [.ref (a 0)] (wM g a u) (some (.int o1)) (wM g a u) 0 0 := by
  refine KM.of (nL := 3) (by decide) rfl (Nat.le_of_ble_eq_true rfl) ?_
  intro p e s m args below meth c A ls C X hl
  have C : CT g p s m args meth c RX6 cX6_allKept 3 (some .int) wsX6_allKept A := C
  have hx := C.1
  have hb := C.2.1
  have hl : lv_has ls 3 [(0, .ref (a 0))] := hl
  rw [fX6_allKept] at hm
  refine lv_iconst (v := 0) hx hb dX6_allKept_0 (by decide) ?_
  refine lv_istore_n (lv' := [(1, .int 0), (0, .ref (a 0))]) hx hb dX6_allKept_1 rfl hl (by decide) rfl (fun ls hl => ?_)
  refine lv_iconst (v := 0) hx hb dX6_allKept_2 (by decide) ?_
  refine lv_istore_n (lv' := [(2, .int 0), (1, .int 0), (0, .ref (a 0))]) hx hb dX6_allKept_3 rfl hl (by decide) rfl (fun ls hl => ?_)
  obtain ⟨y7, hL, hm⟩ := bnd hm
  obtain ⟨nn, hn⟩ := lp_run hL
  refine tX6_allKept_4 a C u y7 (fun H locs ls X hl => ?_) nn _ _ hn _ _ _ X (lv_sub hl [2, 1, 0] rfl)
  clear hL hn
  refine lv_iload_n hx hb dX6_allKept_33 rfl (lv_at hl 0 rfl) ?_
  cases sm hm
  exact kiret C X dX6_allKept_34
-- X6 BrushStrokesModel.count(I)I
abbrev rX6_count : Room := { frames := 2, cells := 0, slots := 0, locals := 44 }
theorem fl_X6_count_141 : (Cond.fieldLink RX6 141 "BrushStrokesModel" "length" "I") ∈ wsX6_count := by decide +kernel
theorem fl_X6_count_35 : (Cond.fieldLink RX6 35 "BrushStrokesModel" "thrown" "I") ∈ wsX6_count := by decide +kernel
theorem fl_X6_count_59 : (Cond.fieldLink RX6 59 "BrushStrokesModel" "saves" "I") ∈ wsX6_count := by decide +kernel
theorem fl_X6_count_7 : (Cond.fieldLink RX6 7 "BrushStrokesModel" "z" "[I") ∈ wsX6_count := by decide +kernel
theorem in_X6_count_X6 : ∀ w ∈ u_ws RX6 TX6 16, w ∈ wsX6_count := by decide +kernel
theorem cw_X6_count_X6_in_39 {p : Program} {s : State} {m : MethodId} {args : Array Value} {meth : Method} {c : Code} {g : kG} {A : Nat → Prop} (C : CT g p s m args meth c RX6 cX6_count 2 (some .int) wsX6_count A) : CallB rX6_count s args RX6 39 yX6_in cX6_in 3 (some .boolean) wsX6_in rX6_in 0 0 3 ∧ (Cond.static yX6_in).before args s = true := cwS 3 C.2.2.2.2.2.1 gX6_count_X6_in rfl rfl rfl (by decide +kernel) ⟨Nat.le_of_ble_eq_true rfl, Nat.le_of_ble_eq_true rfl⟩
theorem cw_X6_count_X6_allPoints_222 {p : Program} {s : State} {m : MethodId} {args : Array Value} {meth : Method} {c : Code} {g : kG} {A : Nat → Prop} (C : CT g p s m args meth c RX6 cX6_count 2 (some .int) wsX6_count A) : CallW rX6_count s args RX6 RX6 222 yX6_allPoints cX6_allPoints 3 (some .int) wsX6_allPoints rX6_allPoints 0 0 0 := cwV 0 C.2.2.2.2.2.1 gX6_count_X6_allPoints rfl rfl rfl (by decide +kernel) ⟨Nat.le_of_ble_eq_true rfl, Nat.le_of_ble_eq_true rfl⟩
theorem cw_X6_count_X6_allKept_225 {p : Program} {s : State} {m : MethodId} {args : Array Value} {meth : Method} {c : Code} {g : kG} {A : Nat → Prop} (C : CT g p s m args meth c RX6 cX6_count 2 (some .int) wsX6_count A) : CallW rX6_count s args RX6 RX6 225 yX6_allKept cX6_allKept 3 (some .int) wsX6_allKept rX6_allKept 0 0 0 := cwV 0 C.2.2.2.2.2.1 gX6_count_X6_allKept rfl rfl rfl (by decide +kernel) ⟨Nat.le_of_ble_eq_true rfl, Nat.le_of_ble_eq_true rfl⟩
noncomputable def fX6_count (p1 : Int32) (u : MS) : Option (Int32 × MS) := (fX6_in p1 0 6).bind fun r1 => ((if r1 = 0 then (some 1) else (some 0)) : Option (Int32)).bind fun v2 => lt (M_s_thrown u v2) fun u3 => if (M_thrown u3) ≤ 0 then (if p1 = 0 then (gd (inb 296 303) (some (M_z u3 (296 : Int32).toNatClampNeg, u3))) else (if p1 = 1 then ((fX6_allPoints u3).bind fun r4 => some (r4, u3)) else (if p1 = 2 then ((fX6_allKept u3).bind fun r5 => some (r5, u3)) else (if p1 = 3 then (gd (inb 301 303) (some (M_z u3 (301 : Int32).toNatClampNeg, u3))) else (if p1 = 4 then (gd (inb 302 303) (some (M_z u3 (302 : Int32).toNatClampNeg, u3))) else (if p1 = 5 then (some (M_saves u3, u3)) else (some (M_length u3, u3)))))))) else (some (0, u3))
set_option maxRecDepth 100000 in
set_option maxHeartbeats 4000000 in
theorem kX6_count (l : Launch) (g : kG) (a : Nat → Nat) (p1 : Int32) (u : MS) (o1 : Int32) (o2 : MS) (hm : fX6_count p1 u = some (o1, o2)) : KM l yX6_count wsX6_count rX6_count g [.ref (a 0), .int p1] (wM g a u) (some (.int o1)) (wM g a o2) 0 0 := by
  refine KM.of (nL := 2) (by decide) rfl (Nat.le_of_ble_eq_true rfl) ?_
  intro p e s m args below meth c A ls C X hl
  have C : CT g p s m args meth c RX6 cX6_count 2 (some .int) wsX6_count A := C
  have hx := C.1
  have hb := C.2.1
  have hl : lv_has ls 2 [(0, .ref (a 0)), (1, .int p1)] := hl
  have hinX6 := in_X6_count_X6
  have hf7 := C.2.2.2.2.2.1 _ fl_X6_count_7
  have hf35 := C.2.2.2.2.2.1 _ fl_X6_count_35
  have hf59 := C.2.2.2.2.2.1 _ fl_X6_count_59
  have hf141 := C.2.2.2.2.2.1 _ fl_X6_count_141
  rw [fX6_count] at hm
  refine lv_aload_n hx hb dX6_count_0 rfl (lv_at hl 0 rfl) ?_
  refine lv_iload_n hx hb dX6_count_1 rfl (lv_at hl 1 rfl) ?_
  refine lv_iconst (v := 0) hx hb dX6_count_2 (by decide) ?_
  refine lv_bipush (v := 6) hx hb dX6_count_3 (by decide) ?_
  obtain ⟨r1, hcl, hm⟩ := bnd hm
  refine kS0 C X (kX6_in l g p1 0 6 r1 hcl) (cw_X6_count_X6_in_39 C) (As := [.int p1, .int 0, .int 6]) rfl hl (rest := [.ref (a 0)]) rfl (Nat.le_of_ble_eq_true rfl) (st2 := [.int r1, .ref (a 0)]) rfl dX6_count_5 ⟨Nat.le_of_ble_eq_true rfl, Nat.le_of_ble_eq_true rfl⟩ (fun H locs X => ?_)
  clear hcl
  obtain ⟨v2, hE, hm⟩ := bnd hm
  have K : ∀ (H : Heap) (locs : List Loc) (ls : Array Slot), ST g A s H locs (wM g a u) → lv_has ls 2 [(0, .ref (a 0)), (1, .int p1)] → W p l e rX6_count s m args below meth c H locs 0 0 (kEnd g below args s (some (.int o1)) (wM g a o2) A 0 0) (F0 m 16 ls [.int v2, .ref (a 0)]) := by
    intro H locs ls X hl
    clear hE
    obtain ⟨u3, eu⟩ : ∃ z, z = M_s_thrown u v2 := ⟨_, rfl⟩
    have hm := lt_t eu hm
    refine kput C X 0 (ci := 6) rfl rfl hinX6 tyX6_ok nmX6 0 (by decide) hf35 rfl (ty := .int) (v := .int v2) rfl rfl rfl (Nat.le_of_ble_eq_true rfl) (w2 := wM g a u3) (by subst eu; rfl) dX6_count_16 (fun H locs X => ?_)
    clear eu
    refine lv_aload_n hx hb dX6_count_19 rfl (lv_at hl 0 rfl) ?_
    refine kget C X 0 (ci := 6) rfl rfl hinX6 0 (by decide) hf35 (v := .int (M_thrown u3)) rfl dX6_count_20 ?_
    refine lv_if_le (tgt := 28) hx hb dX6_count_23 (by decide) (fun hc => ?_) (fun hc => ?_)
    · have hm := ifp hc hm
      refine lv_iload_n hx hb dX6_count_28 rfl (lv_at hl 1 rfl) ?_
      by_cases hc0 : p1 = 0
      · have hm := ifp hc0 hm
        refine lv_tableIn (off := 39) (tgt := 68) hx hb dX6_count_29 (by rw [hc0]; decide) (by rw [hc0]; decide) (by rw [hc0]; rfl) (by decide) ?_
        refine lv_aload_n hx hb dX6_count_68 rfl (lv_at hl 0 rfl) ?_
        refine kget C X 0 (ci := 6) rfl rfl hinX6 1 (by decide) hf7 (v := .ref (a 1)) rfl dX6_count_69 ?_
        refine lv_sipush (v := 296) hx hb dX6_count_72 (by decide) ?_
        obtain ⟨hgi, hm⟩ := gd_t hm
        refine kiald C X 1 rfl hgi dX6_count_75 ?_
        cases sm hm
        exact kiret C X dX6_count_76
      · have hm := ifn hc0 hm
        by_cases hc1 : p1 = 1
        · have hm := ifp hc1 hm
          refine lv_tableIn (off := 48) (tgt := 77) hx hb dX6_count_29 (by rw [hc1]; decide) (by rw [hc1]; decide) (by rw [hc1]; rfl) (by decide) ?_
          refine lv_aload_n hx hb dX6_count_77 rfl (lv_at hl 0 rfl) ?_
          obtain ⟨r4, hcl, hm⟩ := bnd hm
          refine kVW C X (kX6_allPoints l g a u3 r4 hcl) (cw_X6_count_X6_allPoints_222 C) 0 (ci := 6) rfl rfl (As := []) rfl hl (rest := []) rfl (Nat.le_of_ble_eq_true rfl) (st2 := [.int r4]) rfl dX6_count_78 ⟨Nat.le_of_ble_eq_true rfl, Nat.le_of_ble_eq_true rfl⟩ (fun H locs X => ?_)
          clear hcl
          cases sm hm
          exact kiret C X dX6_count_81
        · have hm := ifn hc1 hm
          by_cases hc2 : p1 = 2
          · have hm := ifp hc2 hm
            refine lv_tableIn (off := 53) (tgt := 82) hx hb dX6_count_29 (by rw [hc2]; decide) (by rw [hc2]; decide) (by rw [hc2]; rfl) (by decide) ?_
            refine lv_aload_n hx hb dX6_count_82 rfl (lv_at hl 0 rfl) ?_
            obtain ⟨r5, hcl, hm⟩ := bnd hm
            refine kVW C X (kX6_allKept l g a u3 r5 hcl) (cw_X6_count_X6_allKept_225 C) 0 (ci := 6) rfl rfl (As := []) rfl hl (rest := []) rfl (Nat.le_of_ble_eq_true rfl) (st2 := [.int r5]) rfl dX6_count_83 ⟨Nat.le_of_ble_eq_true rfl, Nat.le_of_ble_eq_true rfl⟩ (fun H locs X => ?_)
            clear hcl
            cases sm hm
            exact kiret C X dX6_count_86
          · have hm := ifn hc2 hm
            by_cases hc3 : p1 = 3
            · have hm := ifp hc3 hm
              refine lv_tableIn (off := 58) (tgt := 87) hx hb dX6_count_29 (by rw [hc3]; decide) (by rw [hc3]; decide) (by rw [hc3]; rfl) (by decide) ?_
              refine lv_aload_n hx hb dX6_count_87 rfl (lv_at hl 0 rfl) ?_
              refine kget C X 0 (ci := 6) rfl rfl hinX6 1 (by decide) hf7 (v := .ref (a 1)) rfl dX6_count_88 ?_
              refine lv_sipush (v := 301) hx hb dX6_count_91 (by decide) ?_
              obtain ⟨hgi, hm⟩ := gd_t hm
              refine kiald C X 1 rfl hgi dX6_count_94 ?_
              cases sm hm
              exact kiret C X dX6_count_95
            · have hm := ifn hc3 hm
              by_cases hc4 : p1 = 4
              · have hm := ifp hc4 hm
                refine lv_tableIn (off := 67) (tgt := 96) hx hb dX6_count_29 (by rw [hc4]; decide) (by rw [hc4]; decide) (by rw [hc4]; rfl) (by decide) ?_
                refine lv_aload_n hx hb dX6_count_96 rfl (lv_at hl 0 rfl) ?_
                refine kget C X 0 (ci := 6) rfl rfl hinX6 1 (by decide) hf7 (v := .ref (a 1)) rfl dX6_count_97 ?_
                refine lv_sipush (v := 302) hx hb dX6_count_100 (by decide) ?_
                obtain ⟨hgi, hm⟩ := gd_t hm
                refine kiald C X 1 rfl hgi dX6_count_103 ?_
                cases sm hm
                exact kiret C X dX6_count_104
              · have hm := ifn hc4 hm
                by_cases hc5 : p1 = 5
                · have hm := ifp hc5 hm
                  refine lv_tableIn (off := 76) (tgt := 105) hx hb dX6_count_29 (by rw [hc5]; decide) (by rw [hc5]; decide) (by rw [hc5]; rfl) (by decide) ?_
                  refine lv_aload_n hx hb dX6_count_105 rfl (lv_at hl 0 rfl) ?_
                  refine kget C X 0 (ci := 6) rfl rfl hinX6 3 (by decide) hf59 (v := .int (M_saves u3)) rfl dX6_count_106 ?_
                  cases sm hm
                  exact kiret C X dX6_count_109
                · have hm := ifn hc5 hm
                  refine lv_tableOut (tgt := 110) hx hb dX6_count_29 (tb_out6 hc0 hc1 hc2 hc3 hc4 hc5) (by decide) ?_
                  refine lv_aload_n hx hb dX6_count_110 rfl (lv_at hl 0 rfl) ?_
                  refine kget C X 0 (ci := 6) rfl rfl hinX6 7 (by decide) hf141 (v := .int (M_length u3)) rfl dX6_count_111 ?_
                  cases sm hm
                  exact kiret C X dX6_count_114
    · have hm := ifn hc hm
      refine lv_iconst (v := 0) hx hb dX6_count_26 (by decide) ?_
      cases sm hm
      exact kiret C X dX6_count_27
  clear hm
  have hm := hE
  clear hE
  refine lv_if_eq (tgt := 15) hx hb dX6_count_8 (by decide) (fun hc => ?_) (fun hc => ?_)
  · have hm := ifp hc hm
    refine lv_iconst (v := 1) hx hb dX6_count_15 (by decide) ?_
    cases sm hm
    exact K _ _ _ X (lv_sub hl [0, 1] rfl)
  · have hm := ifn hc hm
    refine lv_iconst (v := 0) hx hb dX6_count_11 (by decide) ?_
    refine lv_goto (tgt := 16) hx hb dX6_count_12 (by decide) ?_
    cases sm hm
    exact K _ _ _ X (lv_sub hl [0, 1] rfl)
-- X6 BrushStrokesModel.setting(I)I
abbrev rX6_setting : Room := { frames := 1, cells := 0, slots := 0, locals := 22 }
theorem fl_X6_setting_35 : (Cond.fieldLink RX6 35 "BrushStrokesModel" "thrown" "I") ∈ wsX6_setting := by decide +kernel
theorem fl_X6_setting_7 : (Cond.fieldLink RX6 7 "BrushStrokesModel" "z" "[I") ∈ wsX6_setting := by decide +kernel
theorem in_X6_setting_X6 : ∀ w ∈ u_ws RX6 TX6 16, w ∈ wsX6_setting := by decide +kernel
theorem cw_X6_setting_X6_in_39 {p : Program} {s : State} {m : MethodId} {args : Array Value} {meth : Method} {c : Code} {g : kG} {A : Nat → Prop} (C : CT g p s m args meth c RX6 cX6_setting 2 (some .int) wsX6_setting A) : CallB rX6_setting s args RX6 39 yX6_in cX6_in 3 (some .boolean) wsX6_in rX6_in 0 0 3 ∧ (Cond.static yX6_in).before args s = true := cwS 3 C.2.2.2.2.2.1 gX6_setting_X6_in rfl rfl rfl (by decide +kernel) ⟨Nat.le_of_ble_eq_true rfl, Nat.le_of_ble_eq_true rfl⟩
noncomputable def fX6_setting (p1 : Int32) (u : MS) : Option (Int32 × MS) := (fX6_in p1 0 3).bind fun r1 => ((if r1 = 0 then (some 1) else (some 0)) : Option (Int32)).bind fun v2 => lt (M_s_thrown u v2) fun u3 => ((if (M_thrown u3) ≤ 0 then (gd (inb (297 + p1) 303) (some (M_z u3 (297 + p1).toNatClampNeg))) else (some 0)) : Option (Int32)).bind fun v4 => some (v4, u3)
set_option maxRecDepth 100000 in
set_option maxHeartbeats 4000000 in
theorem kX6_setting (l : Launch) (g : kG) (a : Nat → Nat) (p1 : Int32) (u : MS) (o1 : Int32) (o2 : MS) (hm : fX6_setting p1 u = some (o1, o2)) : KM l yX6_setting wsX6_setting rX6_setting g [.ref (a 0), .int p1] (wM g a u) (some (.int o1)) (wM g a o2) 0 0 := by
  refine KM.of (nL := 2) (by decide) rfl (Nat.le_of_ble_eq_true rfl) ?_
  intro p e s m args below meth c A ls C X hl
  have C : CT g p s m args meth c RX6 cX6_setting 2 (some .int) wsX6_setting A := C
  have hx := C.1
  have hb := C.2.1
  have hl : lv_has ls 2 [(0, .ref (a 0)), (1, .int p1)] := hl
  have hinX6 := in_X6_setting_X6
  have hf7 := C.2.2.2.2.2.1 _ fl_X6_setting_7
  have hf35 := C.2.2.2.2.2.1 _ fl_X6_setting_35
  rw [fX6_setting] at hm
  refine lv_aload_n hx hb dX6_setting_0 rfl (lv_at hl 0 rfl) ?_
  refine lv_iload_n hx hb dX6_setting_1 rfl (lv_at hl 1 rfl) ?_
  refine lv_iconst (v := 0) hx hb dX6_setting_2 (by decide) ?_
  refine lv_iconst (v := 3) hx hb dX6_setting_3 (by decide) ?_
  obtain ⟨r1, hcl, hm⟩ := bnd hm
  refine kS0 C X (kX6_in l g p1 0 3 r1 hcl) (cw_X6_setting_X6_in_39 C) (As := [.int p1, .int 0, .int 3]) rfl hl (rest := [.ref (a 0)]) rfl (Nat.le_of_ble_eq_true rfl) (st2 := [.int r1, .ref (a 0)]) rfl dX6_setting_4 ⟨Nat.le_of_ble_eq_true rfl, Nat.le_of_ble_eq_true rfl⟩ (fun H locs X => ?_)
  clear hcl
  obtain ⟨v2, hE, hm⟩ := bnd hm
  have K : ∀ (H : Heap) (locs : List Loc) (ls : Array Slot), ST g A s H locs (wM g a u) → lv_has ls 2 [(0, .ref (a 0)), (1, .int p1)] → W p l e rX6_setting s m args below meth c H locs 0 0 (kEnd g below args s (some (.int o1)) (wM g a o2) A 0 0) (F0 m 15 ls [.int v2, .ref (a 0)]) := by
    intro H locs ls X hl
    clear hE
    obtain ⟨u3, eu⟩ : ∃ z, z = M_s_thrown u v2 := ⟨_, rfl⟩
    have hm := lt_t eu hm
    refine kput C X 0 (ci := 6) rfl rfl hinX6 tyX6_ok nmX6 0 (by decide) hf35 rfl (ty := .int) (v := .int v2) rfl rfl rfl (Nat.le_of_ble_eq_true rfl) (w2 := wM g a u3) (by subst eu; rfl) dX6_setting_15 (fun H locs X => ?_)
    clear eu
    refine lv_aload_n hx hb dX6_setting_18 rfl (lv_at hl 0 rfl) ?_
    refine kget C X 0 (ci := 6) rfl rfl hinX6 0 (by decide) hf35 (v := .int (M_thrown u3)) rfl dX6_setting_19 ?_
    obtain ⟨v4, hE, hm⟩ := bnd hm
    have K : ∀ (H : Heap) (locs : List Loc) (ls : Array Slot), ST g A s H locs (wM g a u3) → lv_has ls 2 [] → W p l e rX6_setting s m args below meth c H locs 0 0 (kEnd g below args s (some (.int o1)) (wM g a o2) A 0 0) (F0 m 39 ls [.int v4]) := by
      intro H locs ls X hl
      clear hE
      cases sm hm
      exact kiret C X dX6_setting_39
    clear hm
    have hm := hE
    clear hE
    refine lv_if_le (tgt := 29) hx hb dX6_setting_22 (by decide) (fun hc => ?_) (fun hc => ?_)
    · have hm := ifp hc hm
      refine lv_aload_n hx hb dX6_setting_29 rfl (lv_at hl 0 rfl) ?_
      refine kget C X 0 (ci := 6) rfl rfl hinX6 1 (by decide) hf7 (v := .ref (a 1)) rfl dX6_setting_30 ?_
      refine lv_sipush (v := 297) hx hb dX6_setting_33 (by decide) ?_
      refine lv_iload_n hx hb dX6_setting_36 rfl (lv_at hl 1 rfl) ?_
      refine lv_iadd hx hb dX6_setting_37 ?_
      obtain ⟨hgi, hm⟩ := gd_t hm
      refine kiald C X 1 rfl hgi dX6_setting_38 ?_
      cases sm hm
      exact K _ _ _ X (lv_sub hl [] rfl)
    · have hm := ifn hc hm
      refine lv_iconst (v := 0) hx hb dX6_setting_25 (by decide) ?_
      refine lv_goto (tgt := 39) hx hb dX6_setting_26 (by decide) ?_
      cases sm hm
      exact K _ _ _ X (lv_sub hl [] rfl)
  clear hm
  have hm := hE
  clear hE
  refine lv_if_eq (tgt := 14) hx hb dX6_setting_7 (by decide) (fun hc => ?_) (fun hc => ?_)
  · have hm := ifp hc hm
    refine lv_iconst (v := 1) hx hb dX6_setting_14 (by decide) ?_
    cases sm hm
    exact K _ _ _ X (lv_sub hl [0, 1] rfl)
  · have hm := ifn hc hm
    refine lv_iconst (v := 0) hx hb dX6_setting_10 (by decide) ?_
    refine lv_goto (tgt := 15) hx hb dX6_setting_11 (by decide) ?_
    cases sm hm
    exact K _ _ _ X (lv_sub hl [0, 1] rfl)
-- X6 BrushStrokesModel.nearest(II)I
abbrev rX6_nearest : Room := { frames := 2, cells := 0, slots := 0, locals := 43 }
theorem fl_X6_nearest_35 : (Cond.fieldLink RX6 35 "BrushStrokesModel" "thrown" "I") ∈ wsX6_nearest := by decide +kernel
theorem fl_X6_nearest_7 : (Cond.fieldLink RX6 7 "BrushStrokesModel" "z" "[I") ∈ wsX6_nearest := by decide +kernel
theorem in_X6_nearest_X6 : ∀ w ∈ u_ws RX6 TX6 16, w ∈ wsX6_nearest := by decide +kernel
theorem cw_X6_nearest_X6_isAt_124 {p : Program} {s : State} {m : MethodId} {args : Array Value} {meth : Method} {c : Code} {g : kG} {A : Nat → Prop} (C : CT g p s m args meth c RX6 cX6_nearest 9 (some .int) wsX6_nearest A) : CallB rX6_nearest s args RX6 124 yX6_isAt cX6_isAt 2 (some .boolean) wsX6_isAt rX6_isAt 0 0 2 ∧ (Cond.static yX6_isAt).before args s = true := cwS 2 C.2.2.2.2.2.1 gX6_nearest_X6_isAt rfl rfl rfl (by decide +kernel) ⟨Nat.le_of_ble_eq_true rfl, Nat.le_of_ble_eq_true rfl⟩
theorem cw_X6_nearest_X6_points_47 {p : Program} {s : State} {m : MethodId} {args : Array Value} {meth : Method} {c : Code} {g : kG} {A : Nat → Prop} (C : CT g p s m args meth c RX6 cX6_nearest 9 (some .int) wsX6_nearest A) : CallW rX6_nearest s args RX6 RX6 47 yX6_points cX6_points 2 (some .int) wsX6_points rX6_points 0 0 1 := cwV 1 C.2.2.2.2.2.1 gX6_nearest_X6_points rfl rfl rfl (by decide +kernel) ⟨Nat.le_of_ble_eq_true rfl, Nat.le_of_ble_eq_true rfl⟩
theorem cw_X6_nearest_X6_of_65 {p : Program} {s : State} {m : MethodId} {args : Array Value} {meth : Method} {c : Code} {g : kG} {A : Nat → Prop} (C : CT g p s m args meth c RX6 cX6_nearest 9 (some .int) wsX6_nearest A) : CallW rX6_nearest s args RX6 RX6 65 yX6_of cX6_of 4 (some .int) wsX6_of rX6_of 0 0 3 := cwV 3 C.2.2.2.2.2.1 gX6_nearest_X6_of rfl rfl rfl (by decide +kernel) ⟨Nat.le_of_ble_eq_true rfl, Nat.le_of_ble_eq_true rfl⟩
noncomputable def bX6_nearest_50 (c11 : Int32) (c12 : Int32) (c15 : Int32) (w17 : MS) : Int32 × Int32 × Int32 → Option ((Int32 × Int32 × Int32) ⊕ (Int32 × Int32))
  | (x13, x14, x16) => (fX6_points c15 w17).bind fun r20 => if r20 ≤ x16 then (some (.inr (x13, x14))) else ((fX6_of c15 x16 0 w17).bind fun r21 => (fX6_of c15 x16 1 w17).bind fun r22 => ((if x13 < 0 then (lt (((r21 - c11) * (r21 - c11)) + ((r22 - c12) * (r22 - c12))) fun x27 => some ((100 * c15) + x16, x27)) else (if x14 ≤ (((r21 - c11) * (r21 - c11)) + ((r22 - c12) * (r22 - c12))) then (some (x13, x14)) else (lt (((r21 - c11) * (r21 - c11)) + ((r22 - c12) * (r22 - c12))) fun x28 => some ((100 * c15) + x16, x28)))) : Option (Int32 × Int32)).bind fun (v25, v26) => some (.inl (v25, v26, x16 + 1)))
noncomputable def lX6_nearest_50 (c11 : Int32) (c12 : Int32) (c15 : Int32) (w17 : MS) (x13 : Int32) (x14 : Int32) (x16 : Int32) : Option (Int32 × Int32) := lp (bX6_nearest_50 c11 c12 c15 w17) (x13, x14, x16)
theorem lX6_nearest_50_eq (c11 : Int32) (c12 : Int32) (c15 : Int32) (w17 : MS) (x13 : Int32) (x14 : Int32) (x16 : Int32) : lX6_nearest_50 c11 c12 c15 w17 x13 x14 x16 = ((fX6_points c15 w17).bind fun r20 => if r20 ≤ x16 then (some (.inr (x13, x14))) else ((fX6_of c15 x16 0 w17).bind fun r21 => (fX6_of c15 x16 1 w17).bind fun r22 => ((if x13 < 0 then (lt (((r21 - c11) * (r21 - c11)) + ((r22 - c12) * (r22 - c12))) fun x27 => some ((100 * c15) + x16, x27)) else (if x14 ≤ (((r21 - c11) * (r21 - c11)) + ((r22 - c12) * (r22 - c12))) then (some (x13, x14)) else (lt (((r21 - c11) * (r21 - c11)) + ((r22 - c12) * (r22 - c12))) fun x28 => some ((100 * c15) + x16, x28)))) : Option (Int32 × Int32)).bind fun (v25, v26) => some (.inl (v25, v26, x16 + 1)))).bind fun r => Sum.elim (fun z => lX6_nearest_50 c11 c12 c15 w17 z.1 z.2.1 z.2.2) (fun r => some r) r := lp_eq (bX6_nearest_50 c11 c12 c15 w17) (x13, x14, x16)
set_option maxRecDepth 100000 in
set_option maxHeartbeats 4000000 in
theorem tX6_nearest_50 {p : Program} {l : Launch} {e : Env} {s : State} {m : MethodId} {args : Array Value} {below : List Frame} {meth : Method} {c : Code} {g : kG} {A : Nat → Prop} {Q : State → Prop} (a : Nat → Nat) (C : CT g p s m args meth c RX6 cX6_nearest 9 (some .int) wsX6_nearest A) (c11 : Int32) (c12 : Int32) (c15 : Int32) (w17 : MS) (y18 : Int32) (y19 : Int32) (kk : ∀ (H : Heap) (locs : List Loc) (ls : Array Slot), ST g A s H locs (wM g a w17) → lv_has ls 9 [(0, .ref (a 0)), (1, .int c11), (2, .int c12), (3, .int y18), (4, .int y19), (5, .int c15)] → W p l e rX6_nearest s m args below meth c H locs 0 0 Q (F0 m 135 ls [])) : ∀ (n : Nat) (x13 : Int32) (x14 : Int32) (x16 : Int32), whl (bX6_nearest_50 c11 c12 c15 w17) n (x13, x14, x16) = some (y18, y19) → ∀ (H : Heap) (locs : List Loc) (ls : Array Slot), ST g A s H locs (wM g a w17) → lv_has ls 9 [(0, .ref (a 0)), (1, .int c11), (2, .int c12), (3, .int x13), (4, .int x14), (5, .int c15), (6, .int x16)] → W p l e rX6_nearest s m args below meth c H locs 0 0 Q (F0 m 50 ls []) := by
  have hx := C.1
  have hb := C.2.1
  intro n
  induction n with
  | zero =>
    intro x13 x14 x16 hm
    cases hm
  | succ n ih =>
    intro x13 x14 x16 hm H locs ls X hl
    rw [whl] at hm
    obtain ⟨q, hq, hm2⟩ := bnd hm
    clear hm
    have hm := hq
    clear hq
    rw [bX6_nearest_50] at hm
    refine lv_iload hx hb dX6_nearest_50 (lv_at hl 6 rfl) ?_
    refine lv_aload_n hx hb dX6_nearest_52 rfl (lv_at hl 0 rfl) ?_
    refine lv_iload hx hb dX6_nearest_53 (lv_at hl 5 rfl) ?_
    obtain ⟨r20, hcl, hm⟩ := bnd hm
    refine kVW C X (kX6_points l g a c15 w17 r20 hcl) (cw_X6_nearest_X6_points_47 C) 0 (ci := 6) rfl rfl (As := [.int c15]) rfl hl (rest := [.int x16]) rfl (Nat.le_of_ble_eq_true rfl) (st2 := [.int r20, .int x16]) rfl dX6_nearest_55 ⟨Nat.le_of_ble_eq_true rfl, Nat.le_of_ble_eq_true rfl⟩ (fun H locs X => ?_)
    clear hcl
    refine lv_icmp_ge (tgt := 135) hx hb dX6_nearest_58 (by decide) (fun hc => ?_) (fun hc => ?_)
    · have hm := ifp hc hm
      cases sm hm
      cases sm hm2
      exact kk _ _ _ X (lv_sub hl [0, 1, 2, 3, 4, 5] rfl)
    · have hm := ifn hc hm
      refine lv_aload_n hx hb dX6_nearest_61 rfl (lv_at hl 0 rfl) ?_
      refine lv_iload hx hb dX6_nearest_62 (lv_at hl 5 rfl) ?_
      refine lv_iload hx hb dX6_nearest_64 (lv_at hl 6 rfl) ?_
      refine lv_iconst (v := 0) hx hb dX6_nearest_66 (by decide) ?_
      obtain ⟨r21, hcl, hm⟩ := bnd hm
      refine kVW C X (kX6_of l g a c15 x16 0 w17 r21 hcl) (cw_X6_nearest_X6_of_65 C) 0 (ci := 6) rfl rfl (As := [.int c15, .int x16, .int 0]) rfl hl (rest := []) rfl (Nat.le_of_ble_eq_true rfl) (st2 := [.int r21]) rfl dX6_nearest_67 ⟨Nat.le_of_ble_eq_true rfl, Nat.le_of_ble_eq_true rfl⟩ (fun H locs X => ?_)
      clear hcl
      refine lv_iload_n hx hb dX6_nearest_70 rfl (lv_at hl 1 rfl) ?_
      refine lv_isub hx hb dX6_nearest_71 ?_
      refine lv_istore (lv' := [(7, .int (r21 - c11)), (0, .ref (a 0)), (1, .int c11), (2, .int c12), (3, .int x13), (4, .int x14), (5, .int c15), (6, .int x16)]) hx hb dX6_nearest_72 hl (by decide) rfl (fun ls hl => ?_)
      refine lv_aload_n hx hb dX6_nearest_74 rfl (lv_at hl 1 rfl) ?_
      refine lv_iload hx hb dX6_nearest_75 (lv_at hl 6 rfl) ?_
      refine lv_iload hx hb dX6_nearest_77 (lv_at hl 7 rfl) ?_
      refine lv_iconst (v := 1) hx hb dX6_nearest_79 (by decide) ?_
      obtain ⟨r22, hcl, hm⟩ := bnd hm
      refine kVW C X (kX6_of l g a c15 x16 1 w17 r22 hcl) (cw_X6_nearest_X6_of_65 C) 0 (ci := 6) rfl rfl (As := [.int c15, .int x16, .int 1]) rfl hl (rest := []) rfl (Nat.le_of_ble_eq_true rfl) (st2 := [.int r22]) rfl dX6_nearest_80 ⟨Nat.le_of_ble_eq_true rfl, Nat.le_of_ble_eq_true rfl⟩ (fun H locs X => ?_)
      clear hcl
      refine lv_iload_n hx hb dX6_nearest_83 rfl (lv_at hl 3 rfl) ?_
      refine lv_isub hx hb dX6_nearest_84 ?_
      refine lv_istore (lv' := [(8, .int (r22 - c12)), (7, .int (r21 - c11)), (0, .ref (a 0)), (1, .int c11), (2, .int c12), (3, .int x13), (4, .int x14), (5, .int c15), (6, .int x16)]) hx hb dX6_nearest_85 hl (by decide) rfl (fun ls hl => ?_)
      refine lv_iload_n hx hb dX6_nearest_87 rfl (lv_at hl 5 rfl) ?_
      obtain ⟨⟨v25, v26⟩, hE, hm⟩ := bnd hm
      have K : ∀ (H : Heap) (locs : List Loc) (ls : Array Slot), ST g A s H locs (wM g a w17) → lv_has ls 9 [(0, .ref (a 0)), (1, .int c11), (2, .int c12), (3, .int v25), (4, .int v26), (5, .int c15), (6, .int x16)] → W p l e rX6_nearest s m args below meth c H locs 0 0 Q (F0 m 129 ls []) := by
        intro H locs ls X hl
        clear hE
        refine lv_iinc (v := x16 + 1) (lv' := [(6, .int (x16 + 1)), (0, .ref (a 0)), (1, .int c11), (2, .int c12), (3, .int v25), (4, .int v26), (5, .int c15)]) hx hb dX6_nearest_129 hl (k := 6) rfl rfl (by decide) rfl (fun ls hl => ?_)
        refine lv_goto (tgt := 50) hx hb dX6_nearest_132 (by decide) ?_
        cases sm hm
        exact ih _ _ _ hm2 _ _ _ X (lv_sub hl [1, 2, 3, 4, 5, 6, 0] rfl)
      clear hm
      have hm := hE
      clear hE
      refine lv_if_lt (tgt := 107) hx hb dX6_nearest_88 (by decide) (fun hc => ?_) (fun hc => ?_)
      · have hm := ifp hc hm
        refine lv_bipush (v := 100) hx hb dX6_nearest_107 (by decide) ?_
        refine lv_iload hx hb dX6_nearest_109 (lv_at hl 7 rfl) ?_
        refine lv_imul hx hb dX6_nearest_111 ?_
        refine lv_iload hx hb dX6_nearest_112 (lv_at hl 8 rfl) ?_
        refine lv_iadd hx hb dX6_nearest_114 ?_
        refine lv_istore_n (lv' := [(3, .int ((100 * c15) + x16)), (8, .int (r22 - c12)), (7, .int (r21 - c11)), (0, .ref (a 0)), (1, .int c11), (2, .int c12), (4, .int x14), (5, .int c15), (6, .int x16)]) hx hb dX6_nearest_115 rfl hl (by decide) rfl (fun ls hl => ?_)
        refine lv_iload hx hb dX6_nearest_116 (lv_at hl 2 rfl) ?_
        refine lv_iload hx hb dX6_nearest_118 (lv_at hl 2 rfl) ?_
        refine lv_imul hx hb dX6_nearest_120 ?_
        refine lv_iload hx hb dX6_nearest_121 (lv_at hl 1 rfl) ?_
        refine lv_iload hx hb dX6_nearest_123 (lv_at hl 1 rfl) ?_
        refine lv_imul hx hb dX6_nearest_125 ?_
        refine lv_iadd hx hb dX6_nearest_126 ?_
        refine lv_topi (fun x27 ex => ?_)
        have hm := lt_t ex hm
        clear ex
        refine lv_istore (lv' := [(4, .int x27), (3, .int ((100 * c15) + x16)), (8, .int (r22 - c12)), (7, .int (r21 - c11)), (0, .ref (a 0)), (1, .int c11), (2, .int c12), (5, .int c15), (6, .int x16)]) hx hb dX6_nearest_127 hl (by decide) rfl (fun ls hl => ?_)
        cases sm hm
        exact K _ _ _ X (lv_sub hl [4, 5, 6, 1, 0, 7, 8] rfl)
      · have hm := ifn hc hm
        refine lv_iload hx hb dX6_nearest_91 (lv_at hl 1 rfl) ?_
        refine lv_iload hx hb dX6_nearest_93 (lv_at hl 1 rfl) ?_
        refine lv_imul hx hb dX6_nearest_95 ?_
        refine lv_iload hx hb dX6_nearest_96 (lv_at hl 0 rfl) ?_
        refine lv_iload hx hb dX6_nearest_98 (lv_at hl 0 rfl) ?_
        refine lv_imul hx hb dX6_nearest_100 ?_
        refine lv_iadd hx hb dX6_nearest_101 ?_
        refine lv_iload hx hb dX6_nearest_102 (lv_at hl 6 rfl) ?_
        refine lv_icmp_ge (tgt := 129) hx hb dX6_nearest_104 (by decide) (fun hc => ?_) (fun hc => ?_)
        · have hm := ifp hc hm
          cases sm hm
          exact K _ _ _ X (lv_sub hl [2, 3, 4, 5, 6, 7, 8] rfl)
        · have hm := ifn hc hm
          refine lv_bipush (v := 100) hx hb dX6_nearest_107 (by decide) ?_
          refine lv_iload hx hb dX6_nearest_109 (lv_at hl 7 rfl) ?_
          refine lv_imul hx hb dX6_nearest_111 ?_
          refine lv_iload hx hb dX6_nearest_112 (lv_at hl 8 rfl) ?_
          refine lv_iadd hx hb dX6_nearest_114 ?_
          refine lv_istore_n (lv' := [(3, .int ((100 * c15) + x16)), (8, .int (r22 - c12)), (7, .int (r21 - c11)), (0, .ref (a 0)), (1, .int c11), (2, .int c12), (4, .int x14), (5, .int c15), (6, .int x16)]) hx hb dX6_nearest_115 rfl hl (by decide) rfl (fun ls hl => ?_)
          refine lv_iload hx hb dX6_nearest_116 (lv_at hl 2 rfl) ?_
          refine lv_iload hx hb dX6_nearest_118 (lv_at hl 2 rfl) ?_
          refine lv_imul hx hb dX6_nearest_120 ?_
          refine lv_iload hx hb dX6_nearest_121 (lv_at hl 1 rfl) ?_
          refine lv_iload hx hb dX6_nearest_123 (lv_at hl 1 rfl) ?_
          refine lv_imul hx hb dX6_nearest_125 ?_
          refine lv_iadd hx hb dX6_nearest_126 ?_
          refine lv_topi (fun x28 ex => ?_)
          have hm := lt_t ex hm
          clear ex
          refine lv_istore (lv' := [(4, .int x28), (3, .int ((100 * c15) + x16)), (8, .int (r22 - c12)), (7, .int (r21 - c11)), (0, .ref (a 0)), (1, .int c11), (2, .int c12), (5, .int c15), (6, .int x16)]) hx hb dX6_nearest_127 hl (by decide) rfl (fun ls hl => ?_)
          cases sm hm
          exact K _ _ _ X (lv_sub hl [4, 5, 6, 1, 0, 7, 8] rfl)
noncomputable def bX6_nearest_34 (c4 : Int32) (c5 : Int32) (w9 : MS) : Int32 × Int32 × Int32 → Option ((Int32 × Int32 × Int32) ⊕ (Int32))
  | (x6, x7, x8) => gd (inb 296 303) (if (M_z w9 (296 : Int32).toNatClampNeg) ≤ x8 then (some (.inr x6)) else ((lX6_nearest_50 c4 c5 x8 w9 x6 x7 0).bind fun (y29, y30) => some (.inl (y29, y30, x8 + 1))))
noncomputable def lX6_nearest_34 (c4 : Int32) (c5 : Int32) (w9 : MS) (x6 : Int32) (x7 : Int32) (x8 : Int32) : Option (Int32) := lp (bX6_nearest_34 c4 c5 w9) (x6, x7, x8)
theorem lX6_nearest_34_eq (c4 : Int32) (c5 : Int32) (w9 : MS) (x6 : Int32) (x7 : Int32) (x8 : Int32) : lX6_nearest_34 c4 c5 w9 x6 x7 x8 = (gd (inb 296 303) (if (M_z w9 (296 : Int32).toNatClampNeg) ≤ x8 then (some (.inr x6)) else ((lX6_nearest_50 c4 c5 x8 w9 x6 x7 0).bind fun (y29, y30) => some (.inl (y29, y30, x8 + 1))))).bind fun r => Sum.elim (fun z => lX6_nearest_34 c4 c5 w9 z.1 z.2.1 z.2.2) (fun r => some r) r := lp_eq (bX6_nearest_34 c4 c5 w9) (x6, x7, x8)
set_option maxRecDepth 100000 in
set_option maxHeartbeats 4000000 in
theorem tX6_nearest_34 {p : Program} {l : Launch} {e : Env} {s : State} {m : MethodId} {args : Array Value} {below : List Frame} {meth : Method} {c : Code} {g : kG} {A : Nat → Prop} {Q : State → Prop} (a : Nat → Nat) (C : CT g p s m args meth c RX6 cX6_nearest 9 (some .int) wsX6_nearest A) (c4 : Int32) (c5 : Int32) (w9 : MS) (y10 : Int32) (kk : ∀ (H : Heap) (locs : List Loc) (ls : Array Slot), ST g A s H locs (wM g a w9) → lv_has ls 9 [(3, .int y10)] → W p l e rX6_nearest s m args below meth c H locs 0 0 Q (F0 m 141 ls [])) : ∀ (n : Nat) (x6 : Int32) (x7 : Int32) (x8 : Int32), whl (bX6_nearest_34 c4 c5 w9) n (x6, x7, x8) = some y10 → ∀ (H : Heap) (locs : List Loc) (ls : Array Slot), ST g A s H locs (wM g a w9) → lv_has ls 9 [(0, .ref (a 0)), (1, .int c4), (2, .int c5), (3, .int x6), (4, .int x7), (5, .int x8)] → W p l e rX6_nearest s m args below meth c H locs 0 0 Q (F0 m 34 ls []) := by
  have hx := C.1
  have hb := C.2.1
  have hinX6 := in_X6_nearest_X6
  have hf7 := C.2.2.2.2.2.1 _ fl_X6_nearest_7
  intro n
  induction n with
  | zero =>
    intro x6 x7 x8 hm
    cases hm
  | succ n ih =>
    intro x6 x7 x8 hm H locs ls X hl
    rw [whl] at hm
    obtain ⟨q, hq, hm2⟩ := bnd hm
    clear hm
    have hm := hq
    clear hq
    rw [bX6_nearest_34] at hm
    refine lv_iload hx hb dX6_nearest_34 (lv_at hl 5 rfl) ?_
    refine lv_aload_n hx hb dX6_nearest_36 rfl (lv_at hl 0 rfl) ?_
    refine kget C X 0 (ci := 6) rfl rfl hinX6 1 (by decide) hf7 (v := .ref (a 1)) rfl dX6_nearest_37 ?_
    refine lv_sipush (v := 296) hx hb dX6_nearest_40 (by decide) ?_
    obtain ⟨hgi, hm⟩ := gd_t hm
    refine kiald C X 1 rfl hgi dX6_nearest_43 ?_
    refine lv_icmp_ge (tgt := 141) hx hb dX6_nearest_44 (by decide) (fun hc => ?_) (fun hc => ?_)
    · have hm := ifp hc hm
      cases sm hm
      cases sm hm2
      exact kk _ _ _ X (lv_sub hl [3] rfl)
    · have hm := ifn hc hm
      refine lv_iconst (v := 0) hx hb dX6_nearest_47 (by decide) ?_
      refine lv_istore (lv' := [(6, .int 0), (0, .ref (a 0)), (1, .int c4), (2, .int c5), (3, .int x6), (4, .int x7), (5, .int x8)]) hx hb dX6_nearest_48 hl (by decide) rfl (fun ls hl => ?_)
      obtain ⟨⟨y29, y30⟩, hL, hm⟩ := bnd hm
      obtain ⟨nn, hn⟩ := lp_run hL
      refine tX6_nearest_50 a C c4 c5 x8 w9 y29 y30 (fun H locs ls X hl => ?_) nn _ _ _ hn _ _ _ X (lv_sub hl [1, 2, 3, 4, 5, 6, 0] rfl)
      clear hL hn
      refine lv_iinc (v := x8 + 1) (lv' := [(5, .int (x8 + 1)), (0, .ref (a 0)), (1, .int c4), (2, .int c5), (3, .int y29), (4, .int y30)]) hx hb dX6_nearest_135 hl (k := 5) rfl rfl (by decide) rfl (fun ls hl => ?_)
      refine lv_goto (tgt := 34) hx hb dX6_nearest_138 (by decide) ?_
      cases sm hm
      exact ih _ _ _ hm2 _ _ _ X (lv_sub hl [1, 2, 3, 4, 5, 0] rfl)
noncomputable def fX6_nearest (p1 : Int32) (p2 : Int32) (u : MS) : Option (Int32 × MS) := (fX6_isAt p1 p2).bind fun r1 => ((if r1 = 0 then (some 1) else (some 0)) : Option (Int32)).bind fun v2 => lt (M_s_thrown u v2) fun u3 => if (M_thrown u3) ≤ 0 then ((lX6_nearest_34 p1 p2 u3 (-1) 0 0).bind fun y31 => some (y31, u3)) else (some (0, u3))
set_option maxRecDepth 100000 in
set_option maxHeartbeats 4000000 in
theorem kX6_nearest (l : Launch) (g : kG) (a : Nat → Nat) (p1 : Int32) (p2 : Int32) (u : MS) (o1 : Int32) (o2 : MS) (hm : fX6_nearest p1 p2 u = some (o1, o2)) : KM l yX6_nearest wsX6_nearest rX6_nearest g [.ref (a 0), .int p1, .int p2] (wM g a u) (some (.int o1)) (wM g a o2) 0 0 := by
  refine KM.of (nL := 9) (by decide) rfl (Nat.le_of_ble_eq_true rfl) ?_
  intro p e s m args below meth c A ls C X hl
  have C : CT g p s m args meth c RX6 cX6_nearest 9 (some .int) wsX6_nearest A := C
  have hx := C.1
  have hb := C.2.1
  have hl : lv_has ls 9 [(0, .ref (a 0)), (1, .int p1), (2, .int p2)] := hl
  have hinX6 := in_X6_nearest_X6
  have hf35 := C.2.2.2.2.2.1 _ fl_X6_nearest_35
  rw [fX6_nearest] at hm
  refine lv_aload_n hx hb dX6_nearest_0 rfl (lv_at hl 0 rfl) ?_
  refine lv_iload_n hx hb dX6_nearest_1 rfl (lv_at hl 1 rfl) ?_
  refine lv_iload_n hx hb dX6_nearest_2 rfl (lv_at hl 2 rfl) ?_
  obtain ⟨r1, hcl, hm⟩ := bnd hm
  refine kS0 C X (kX6_isAt l g p1 p2 r1 hcl) (cw_X6_nearest_X6_isAt_124 C) (As := [.int p1, .int p2]) rfl hl (rest := [.ref (a 0)]) rfl (Nat.le_of_ble_eq_true rfl) (st2 := [.int r1, .ref (a 0)]) rfl dX6_nearest_3 ⟨Nat.le_of_ble_eq_true rfl, Nat.le_of_ble_eq_true rfl⟩ (fun H locs X => ?_)
  clear hcl
  obtain ⟨v2, hE, hm⟩ := bnd hm
  have K : ∀ (H : Heap) (locs : List Loc) (ls : Array Slot), ST g A s H locs (wM g a u) → lv_has ls 9 [(0, .ref (a 0)), (1, .int p1), (2, .int p2)] → W p l e rX6_nearest s m args below meth c H locs 0 0 (kEnd g below args s (some (.int o1)) (wM g a o2) A 0 0) (F0 m 14 ls [.int v2, .ref (a 0)]) := by
    intro H locs ls X hl
    clear hE
    obtain ⟨u3, eu⟩ : ∃ z, z = M_s_thrown u v2 := ⟨_, rfl⟩
    have hm := lt_t eu hm
    refine kput C X 0 (ci := 6) rfl rfl hinX6 tyX6_ok nmX6 0 (by decide) hf35 rfl (ty := .int) (v := .int v2) rfl rfl rfl (Nat.le_of_ble_eq_true rfl) (w2 := wM g a u3) (by subst eu; rfl) dX6_nearest_14 (fun H locs X => ?_)
    clear eu
    refine lv_aload_n hx hb dX6_nearest_17 rfl (lv_at hl 0 rfl) ?_
    refine kget C X 0 (ci := 6) rfl rfl hinX6 0 (by decide) hf35 (v := .int (M_thrown u3)) rfl dX6_nearest_18 ?_
    refine lv_if_le (tgt := 26) hx hb dX6_nearest_21 (by decide) (fun hc => ?_) (fun hc => ?_)
    · have hm := ifp hc hm
      refine lv_iconst (v := (-1)) hx hb dX6_nearest_26 (by decide) ?_
      refine lv_istore_n (lv' := [(3, .int (-1)), (0, .ref (a 0)), (1, .int p1), (2, .int p2)]) hx hb dX6_nearest_27 rfl hl (by decide) rfl (fun ls hl => ?_)
      refine lv_iconst (v := 0) hx hb dX6_nearest_28 (by decide) ?_
      refine lv_istore (lv' := [(4, .int 0), (3, .int (-1)), (0, .ref (a 0)), (1, .int p1), (2, .int p2)]) hx hb dX6_nearest_29 hl (by decide) rfl (fun ls hl => ?_)
      refine lv_iconst (v := 0) hx hb dX6_nearest_31 (by decide) ?_
      refine lv_istore (lv' := [(5, .int 0), (4, .int 0), (3, .int (-1)), (0, .ref (a 0)), (1, .int p1), (2, .int p2)]) hx hb dX6_nearest_32 hl (by decide) rfl (fun ls hl => ?_)
      obtain ⟨y31, hL, hm⟩ := bnd hm
      obtain ⟨nn, hn⟩ := lp_run hL
      refine tX6_nearest_34 a C p1 p2 u3 y31 (fun H locs ls X hl => ?_) nn _ _ _ hn _ _ _ X (lv_sub hl [3, 4, 5, 2, 1, 0] rfl)
      clear hL hn
      refine lv_iload_n hx hb dX6_nearest_141 rfl (lv_at hl 0 rfl) ?_
      cases sm hm
      exact kiret C X dX6_nearest_142
    · have hm := ifn hc hm
      refine lv_iconst (v := 0) hx hb dX6_nearest_24 (by decide) ?_
      cases sm hm
      exact kiret C X dX6_nearest_25
  clear hm
  have hm := hE
  clear hE
  refine lv_if_eq (tgt := 13) hx hb dX6_nearest_6 (by decide) (fun hc => ?_) (fun hc => ?_)
  · have hm := ifp hc hm
    refine lv_iconst (v := 1) hx hb dX6_nearest_13 (by decide) ?_
    cases sm hm
    exact K _ _ _ X (lv_sub hl [0, 1, 2] rfl)
  · have hm := ifn hc hm
    refine lv_iconst (v := 0) hx hb dX6_nearest_9 (by decide) ?_
    refine lv_goto (tgt := 14) hx hb dX6_nearest_10 (by decide) ?_
    cases sm hm
    exact K _ _ _ X (lv_sub hl [0, 1, 2] rfl)
-- X6 BrushStrokesModel.ifSimplified(III)I
abbrev rX6_ifSimplified : Room := { frames := 7, cells := 0, slots := 0, locals := 187 }
theorem fl_X6_ifSimplified_35 : (Cond.fieldLink RX6 35 "BrushStrokesModel" "thrown" "I") ∈ wsX6_ifSimplified := by decide +kernel
theorem in_X6_ifSimplified_X6 : ∀ w ∈ u_ws RX6 TX6 16, w ∈ wsX6_ifSimplified := by decide +kernel
theorem cw_X6_ifSimplified_X6_in_39 {p : Program} {s : State} {m : MethodId} {args : Array Value} {meth : Method} {c : Code} {g : kG} {A : Nat → Prop} (C : CT g p s m args meth c RX6 cX6_ifSimplified 4 (some .int) wsX6_ifSimplified A) : CallB rX6_ifSimplified s args RX6 39 yX6_in cX6_in 3 (some .boolean) wsX6_in rX6_in 0 0 3 ∧ (Cond.static yX6_in).before args s = true := cwS 3 C.2.2.2.2.2.1 gX6_ifSimplified_X6_in rfl rfl rfl (by decide +kernel) ⟨Nat.le_of_ble_eq_true rfl, Nat.le_of_ble_eq_true rfl⟩
theorem cw_X6_ifSimplified_X6_isStroke_43 {p : Program} {s : State} {m : MethodId} {args : Array Value} {meth : Method} {c : Code} {g : kG} {A : Nat → Prop} (C : CT g p s m args meth c RX6 cX6_ifSimplified 4 (some .int) wsX6_ifSimplified A) : CallW rX6_ifSimplified s args RX6 RX6 43 yX6_isStroke cX6_isStroke 2 (some .boolean) wsX6_isStroke rX6_isStroke 0 0 1 := cwV 1 C.2.2.2.2.2.1 gX6_ifSimplified_X6_isStroke rfl rfl rfl (by decide +kernel) ⟨Nat.le_of_ble_eq_true rfl, Nat.le_of_ble_eq_true rfl⟩
theorem cw_X6_ifSimplified_X6_simplified_154 {p : Program} {s : State} {m : MethodId} {args : Array Value} {meth : Method} {c : Code} {g : kG} {A : Nat → Prop} (C : CT g p s m args meth c RX6 cX6_ifSimplified 4 (some .int) wsX6_ifSimplified A) : CallW rX6_ifSimplified s args RX6 RX6 154 yX6_simplified cX6_simplified 4 (some .int) wsX6_simplified rX6_simplified 0 0 3 := cwV 3 C.2.2.2.2.2.1 gX6_ifSimplified_X6_simplified rfl rfl rfl (by decide +kernel) ⟨Nat.le_of_ble_eq_true rfl, Nat.le_of_ble_eq_true rfl⟩
theorem cw_X6_ifSimplified_X6_ones_157 {p : Program} {s : State} {m : MethodId} {args : Array Value} {meth : Method} {c : Code} {g : kG} {A : Nat → Prop} (C : CT g p s m args meth c RX6 cX6_ifSimplified 4 (some .int) wsX6_ifSimplified A) : CallB rX6_ifSimplified s args RX6 157 yX6_ones cX6_ones 3 (some .int) wsX6_ones rX6_ones 0 0 1 ∧ (Cond.static yX6_ones).before args s = true := cwS 1 C.2.2.2.2.2.1 gX6_ifSimplified_X6_ones rfl rfl rfl (by decide +kernel) ⟨Nat.le_of_ble_eq_true rfl, Nat.le_of_ble_eq_true rfl⟩
noncomputable def fX6_ifSimplified (p1 : Int32) (p2 : Int32) (p3 : Int32) (u : MS) : Option (Int32 × MS) := (fX6_isStroke p1 u).bind fun r1 => ((if r1 = 0 then (some 1) else ((fX6_in p2 0 50).bind fun r5 => if r5 = 0 then (some 2) else ((fX6_in p3 0 1).bind fun r6 => if r6 = 0 then (some 2) else (some 0)))) : Option (Int32)).bind fun v4 => lt (M_s_thrown u v4) fun u7 => ((if (M_thrown u7) ≤ 0 then ((fX6_simplified p1 p2 p3 u7).bind fun (r13, u14) => (fX6_ones r13).bind fun r15 => some (r15, u14)) else (some (0, u7))) : Option (Int32 × MS)).bind fun (v11, u12) => some (v11, u12)
set_option maxRecDepth 100000 in
set_option maxHeartbeats 4000000 in
theorem kX6_ifSimplified (l : Launch) (g : kG) (a : Nat → Nat) (p1 : Int32) (p2 : Int32) (p3 : Int32) (u : MS) (o1 : Int32) (o2 : MS) (hm : fX6_ifSimplified p1 p2 p3 u = some (o1, o2)) : KM l yX6_ifSimplified wsX6_ifSimplified rX6_ifSimplified g [.ref (a 0), .int p1, .int p2, .int p3] (wM g a u) (some (.int o1)) (wM g a o2) 0 0 := by
  refine KM.of (nL := 4) (by decide) rfl (Nat.le_of_ble_eq_true rfl) ?_
  intro p e s m args below meth c A ls C X hl
  have C : CT g p s m args meth c RX6 cX6_ifSimplified 4 (some .int) wsX6_ifSimplified A := C
  have hx := C.1
  have hb := C.2.1
  have hl : lv_has ls 4 [(0, .ref (a 0)), (1, .int p1), (2, .int p2), (3, .int p3)] := hl
  have hinX6 := in_X6_ifSimplified_X6
  have hf35 := C.2.2.2.2.2.1 _ fl_X6_ifSimplified_35
  rw [fX6_ifSimplified] at hm
  refine lv_aload_n hx hb dX6_ifSimplified_0 rfl (lv_at hl 0 rfl) ?_
  refine lv_aload_n hx hb dX6_ifSimplified_1 rfl (lv_at hl 0 rfl) ?_
  refine lv_iload_n hx hb dX6_ifSimplified_2 rfl (lv_at hl 1 rfl) ?_
  obtain ⟨r1, hcl, hm⟩ := bnd hm
  refine kVW C X (kX6_isStroke l g a p1 u r1 hcl) (cw_X6_ifSimplified_X6_isStroke_43 C) 0 (ci := 6) rfl rfl (As := [.int p1]) rfl hl (rest := [.ref (a 0)]) rfl (Nat.le_of_ble_eq_true rfl) (st2 := [.int r1, .ref (a 0)]) rfl dX6_ifSimplified_3 ⟨Nat.le_of_ble_eq_true rfl, Nat.le_of_ble_eq_true rfl⟩ (fun H locs X => ?_)
  clear hcl
  obtain ⟨v4, hE, hm⟩ := bnd hm
  have K : ∀ (H : Heap) (locs : List Loc) (ls : Array Slot), ST g A s H locs (wM g a u) → lv_has ls 4 [(0, .ref (a 0)), (1, .int p1), (2, .int p2), (3, .int p3)] → W p l e rX6_ifSimplified s m args below meth c H locs 0 0 (kEnd g below args s (some (.int o1)) (wM g a o2) A 0 0) (F0 m 37 ls [.int v4, .ref (a 0)]) := by
    intro H locs ls X hl
    clear hE
    obtain ⟨u7, eu⟩ : ∃ z, z = M_s_thrown u v4 := ⟨_, rfl⟩
    have hm := lt_t eu hm
    refine kput C X 0 (ci := 6) rfl rfl hinX6 tyX6_ok nmX6 0 (by decide) hf35 rfl (ty := .int) (v := .int v4) rfl rfl rfl (Nat.le_of_ble_eq_true rfl) (w2 := wM g a u7) (by subst eu; rfl) dX6_ifSimplified_37 (fun H locs X => ?_)
    clear eu
    refine lv_aload_n hx hb dX6_ifSimplified_40 rfl (lv_at hl 0 rfl) ?_
    refine kget C X 0 (ci := 6) rfl rfl hinX6 0 (by decide) hf35 (v := .int (M_thrown u7)) rfl dX6_ifSimplified_41 ?_
    obtain ⟨⟨v11, u12⟩, hE, hm⟩ := bnd hm
    have K : ∀ (H : Heap) (locs : List Loc) (ls : Array Slot), ST g A s H locs (wM g a u12) → lv_has ls 4 [] → W p l e rX6_ifSimplified s m args below meth c H locs 0 0 (kEnd g below args s (some (.int o1)) (wM g a o2) A 0 0) (F0 m 61 ls [.int v11]) := by
      intro H locs ls X hl
      clear hE
      cases sm hm
      exact kiret C X dX6_ifSimplified_61
    clear hm
    have hm := hE
    clear hE
    refine lv_if_le (tgt := 51) hx hb dX6_ifSimplified_44 (by decide) (fun hc => ?_) (fun hc => ?_)
    · have hm := ifp hc hm
      refine lv_aload_n hx hb dX6_ifSimplified_51 rfl (lv_at hl 0 rfl) ?_
      refine lv_iload_n hx hb dX6_ifSimplified_52 rfl (lv_at hl 1 rfl) ?_
      refine lv_iload_n hx hb dX6_ifSimplified_53 rfl (lv_at hl 2 rfl) ?_
      refine lv_iload_n hx hb dX6_ifSimplified_54 rfl (lv_at hl 3 rfl) ?_
      obtain ⟨⟨r13, u14⟩, hcl, hm⟩ := bnd hm
      refine kVW C X (kX6_simplified l g a p1 p2 p3 u7 r13 u14 hcl) (cw_X6_ifSimplified_X6_simplified_154 C) 0 (ci := 6) rfl rfl (As := [.int p1, .int p2, .int p3]) rfl hl (rest := []) rfl (Nat.le_of_ble_eq_true rfl) (st2 := [.int r13]) rfl dX6_ifSimplified_55 ⟨Nat.le_of_ble_eq_true rfl, Nat.le_of_ble_eq_true rfl⟩ (fun H locs X => ?_)
      clear hcl
      obtain ⟨r15, hcl, hm⟩ := bnd hm
      refine kS0 C X (kX6_ones l g r13 r15 hcl) (cw_X6_ifSimplified_X6_ones_157 C) (As := [.int r13]) rfl hl (rest := []) rfl (Nat.le_of_ble_eq_true rfl) (st2 := [.int r15]) rfl dX6_ifSimplified_58 ⟨Nat.le_of_ble_eq_true rfl, Nat.le_of_ble_eq_true rfl⟩ (fun H locs X => ?_)
      clear hcl
      cases sm hm
      exact K _ _ _ X (lv_sub hl [] rfl)
    · have hm := ifn hc hm
      refine lv_iconst (v := 0) hx hb dX6_ifSimplified_47 (by decide) ?_
      refine lv_goto (tgt := 61) hx hb dX6_ifSimplified_48 (by decide) ?_
      cases sm hm
      exact K _ _ _ X (lv_sub hl [] rfl)
  clear hm
  have hm := hE
  clear hE
  refine lv_if_ne (tgt := 13) hx hb dX6_ifSimplified_6 (by decide) (fun hc => ?_) (fun hc => ?_)
  · have hm := ifn hc hm
    refine lv_iload_n hx hb dX6_ifSimplified_13 rfl (lv_at hl 2 rfl) ?_
    refine lv_iconst (v := 0) hx hb dX6_ifSimplified_14 (by decide) ?_
    refine lv_bipush (v := 50) hx hb dX6_ifSimplified_15 (by decide) ?_
    obtain ⟨r5, hcl, hm⟩ := bnd hm
    refine kS0 C X (kX6_in l g p2 0 50 r5 hcl) (cw_X6_ifSimplified_X6_in_39 C) (As := [.int p2, .int 0, .int 50]) rfl hl (rest := [.ref (a 0)]) rfl (Nat.le_of_ble_eq_true rfl) (st2 := [.int r5, .ref (a 0)]) rfl dX6_ifSimplified_17 ⟨Nat.le_of_ble_eq_true rfl, Nat.le_of_ble_eq_true rfl⟩ (fun H locs X => ?_)
    clear hcl
    refine lv_if_eq (tgt := 36) hx hb dX6_ifSimplified_20 (by decide) (fun hc => ?_) (fun hc => ?_)
    · have hm := ifp hc hm
      refine lv_iconst (v := 2) hx hb dX6_ifSimplified_36 (by decide) ?_
      cases sm hm
      exact K _ _ _ X (lv_sub hl [0, 1, 2, 3] rfl)
    · have hm := ifn hc hm
      refine lv_iload_n hx hb dX6_ifSimplified_23 rfl (lv_at hl 3 rfl) ?_
      refine lv_iconst (v := 0) hx hb dX6_ifSimplified_24 (by decide) ?_
      refine lv_iconst (v := 1) hx hb dX6_ifSimplified_25 (by decide) ?_
      obtain ⟨r6, hcl, hm⟩ := bnd hm
      refine kS0 C X (kX6_in l g p3 0 1 r6 hcl) (cw_X6_ifSimplified_X6_in_39 C) (As := [.int p3, .int 0, .int 1]) rfl hl (rest := [.ref (a 0)]) rfl (Nat.le_of_ble_eq_true rfl) (st2 := [.int r6, .ref (a 0)]) rfl dX6_ifSimplified_26 ⟨Nat.le_of_ble_eq_true rfl, Nat.le_of_ble_eq_true rfl⟩ (fun H locs X => ?_)
      clear hcl
      refine lv_if_eq (tgt := 36) hx hb dX6_ifSimplified_29 (by decide) (fun hc => ?_) (fun hc => ?_)
      · have hm := ifp hc hm
        refine lv_iconst (v := 2) hx hb dX6_ifSimplified_36 (by decide) ?_
        cases sm hm
        exact K _ _ _ X (lv_sub hl [0, 1, 2, 3] rfl)
      · have hm := ifn hc hm
        refine lv_iconst (v := 0) hx hb dX6_ifSimplified_32 (by decide) ?_
        refine lv_goto (tgt := 37) hx hb dX6_ifSimplified_33 (by decide) ?_
        cases sm hm
        exact K _ _ _ X (lv_sub hl [0, 1, 2, 3] rfl)
  · have hm := ifp hc hm
    refine lv_iconst (v := 1) hx hb dX6_ifSimplified_9 (by decide) ?_
    refine lv_goto (tgt := 37) hx hb dX6_ifSimplified_10 (by decide) ?_
    cases sm hm
    exact K _ _ _ X (lv_sub hl [0, 1, 2, 3] rfl)
-- X6 BrushStrokesModel.leastBound(III)I
abbrev rX6_leastBound : Room := { frames := 7, cells := 0, slots := 0, locals := 187 }
theorem fl_X6_leastBound_35 : (Cond.fieldLink RX6 35 "BrushStrokesModel" "thrown" "I") ∈ wsX6_leastBound := by decide +kernel
theorem in_X6_leastBound_X6 : ∀ w ∈ u_ws RX6 TX6 16, w ∈ wsX6_leastBound := by decide +kernel
theorem cw_X6_leastBound_X6_in_39 {p : Program} {s : State} {m : MethodId} {args : Array Value} {meth : Method} {c : Code} {g : kG} {A : Nat → Prop} (C : CT g p s m args meth c RX6 cX6_leastBound 5 (some .int) wsX6_leastBound A) : CallB rX6_leastBound s args RX6 39 yX6_in cX6_in 3 (some .boolean) wsX6_in rX6_in 0 0 3 ∧ (Cond.static yX6_in).before args s = true := cwS 3 C.2.2.2.2.2.1 gX6_leastBound_X6_in rfl rfl rfl (by decide +kernel) ⟨Nat.le_of_ble_eq_true rfl, Nat.le_of_ble_eq_true rfl⟩
theorem cw_X6_leastBound_X6_isStroke_43 {p : Program} {s : State} {m : MethodId} {args : Array Value} {meth : Method} {c : Code} {g : kG} {A : Nat → Prop} (C : CT g p s m args meth c RX6 cX6_leastBound 5 (some .int) wsX6_leastBound A) : CallW rX6_leastBound s args RX6 RX6 43 yX6_isStroke cX6_isStroke 2 (some .boolean) wsX6_isStroke rX6_isStroke 0 0 1 := cwV 1 C.2.2.2.2.2.1 gX6_leastBound_X6_isStroke rfl rfl rfl (by decide +kernel) ⟨Nat.le_of_ble_eq_true rfl, Nat.le_of_ble_eq_true rfl⟩
theorem cw_X6_leastBound_X6_simplified_154 {p : Program} {s : State} {m : MethodId} {args : Array Value} {meth : Method} {c : Code} {g : kG} {A : Nat → Prop} (C : CT g p s m args meth c RX6 cX6_leastBound 5 (some .int) wsX6_leastBound A) : CallW rX6_leastBound s args RX6 RX6 154 yX6_simplified cX6_simplified 4 (some .int) wsX6_simplified rX6_simplified 0 0 3 := cwV 3 C.2.2.2.2.2.1 gX6_leastBound_X6_simplified rfl rfl rfl (by decide +kernel) ⟨Nat.le_of_ble_eq_true rfl, Nat.le_of_ble_eq_true rfl⟩
theorem cw_X6_leastBound_X6_ones_157 {p : Program} {s : State} {m : MethodId} {args : Array Value} {meth : Method} {c : Code} {g : kG} {A : Nat → Prop} (C : CT g p s m args meth c RX6 cX6_leastBound 5 (some .int) wsX6_leastBound A) : CallB rX6_leastBound s args RX6 157 yX6_ones cX6_ones 3 (some .int) wsX6_ones rX6_ones 0 0 1 ∧ (Cond.static yX6_ones).before args s = true := cwS 1 C.2.2.2.2.2.1 gX6_leastBound_X6_ones rfl rfl rfl (by decide +kernel) ⟨Nat.le_of_ble_eq_true rfl, Nat.le_of_ble_eq_true rfl⟩
noncomputable def bX6_leastBound_52 (c8 : Int32) (c9 : Int32) (c10 : Int32) : Int32 × MS → Option ((Int32 × MS) ⊕ (Int32 × MS))
  | (x11, u12) => if 50 < x11 then (some (.inr (x11, u12))) else ((fX6_simplified c8 x11 c10 u12).bind fun (r15, u16) => (fX6_ones r15).bind fun r17 => if r17 ≤ c9 then (some (.inr (x11, u16))) else (some (.inl (x11 + 1, u16))))
noncomputable def lX6_leastBound_52 (c8 : Int32) (c9 : Int32) (c10 : Int32) (x11 : Int32) (u12 : MS) : Option (Int32 × MS) := lp (bX6_leastBound_52 c8 c9 c10) (x11, u12)
theorem lX6_leastBound_52_eq (c8 : Int32) (c9 : Int32) (c10 : Int32) (x11 : Int32) (u12 : MS) : lX6_leastBound_52 c8 c9 c10 x11 u12 = (if 50 < x11 then (some (.inr (x11, u12))) else ((fX6_simplified c8 x11 c10 u12).bind fun (r15, u16) => (fX6_ones r15).bind fun r17 => if r17 ≤ c9 then (some (.inr (x11, u16))) else (some (.inl (x11 + 1, u16))))).bind fun r => Sum.elim (fun z => lX6_leastBound_52 c8 c9 c10 z.1 z.2) (fun r => some r) r := lp_eq (bX6_leastBound_52 c8 c9 c10) (x11, u12)
set_option maxRecDepth 100000 in
set_option maxHeartbeats 4000000 in
theorem tX6_leastBound_52 {p : Program} {l : Launch} {e : Env} {s : State} {m : MethodId} {args : Array Value} {below : List Frame} {meth : Method} {c : Code} {g : kG} {A : Nat → Prop} {Q : State → Prop} (a : Nat → Nat) (C : CT g p s m args meth c RX6 cX6_leastBound 5 (some .int) wsX6_leastBound A) (c8 : Int32) (c9 : Int32) (c10 : Int32) (y13 : Int32) (u14 : MS) (kk : ∀ (H : Heap) (locs : List Loc) (ls : Array Slot), ST g A s H locs (wM g a u14) → lv_has ls 5 [(4, .int y13)] → W p l e rX6_leastBound s m args below meth c H locs 0 0 Q (F0 m 80 ls [])) : ∀ (n : Nat) (x11 : Int32) (u12 : MS), whl (bX6_leastBound_52 c8 c9 c10) n (x11, u12) = some (y13, u14) → ∀ (H : Heap) (locs : List Loc) (ls : Array Slot), ST g A s H locs (wM g a u12) → lv_has ls 5 [(0, .ref (a 0)), (1, .int c8), (2, .int c9), (3, .int c10), (4, .int x11)] → W p l e rX6_leastBound s m args below meth c H locs 0 0 Q (F0 m 52 ls []) := by
  have hx := C.1
  have hb := C.2.1
  intro n
  induction n with
  | zero =>
    intro x11 u12 hm
    cases hm
  | succ n ih =>
    intro x11 u12 hm H locs ls X hl
    rw [whl] at hm
    obtain ⟨q, hq, hm2⟩ := bnd hm
    clear hm
    have hm := hq
    clear hq
    rw [bX6_leastBound_52] at hm
    refine lv_iload hx hb dX6_leastBound_52 (lv_at hl 4 rfl) ?_
    refine lv_bipush (v := 50) hx hb dX6_leastBound_54 (by decide) ?_
    refine lv_icmp_gt (tgt := 80) hx hb dX6_leastBound_56 (by decide) (fun hc => ?_) (fun hc => ?_)
    · have hm := ifp hc hm
      cases sm hm
      cases sm hm2
      exact kk _ _ _ X (lv_sub hl [4] rfl)
    · have hm := ifn hc hm
      refine lv_aload_n hx hb dX6_leastBound_59 rfl (lv_at hl 0 rfl) ?_
      refine lv_iload_n hx hb dX6_leastBound_60 rfl (lv_at hl 1 rfl) ?_
      refine lv_iload hx hb dX6_leastBound_61 (lv_at hl 4 rfl) ?_
      refine lv_iload_n hx hb dX6_leastBound_63 rfl (lv_at hl 3 rfl) ?_
      obtain ⟨⟨r15, u16⟩, hcl, hm⟩ := bnd hm
      refine kVW C X (kX6_simplified l g a c8 x11 c10 u12 r15 u16 hcl) (cw_X6_leastBound_X6_simplified_154 C) 0 (ci := 6) rfl rfl (As := [.int c8, .int x11, .int c10]) rfl hl (rest := []) rfl (Nat.le_of_ble_eq_true rfl) (st2 := [.int r15]) rfl dX6_leastBound_64 ⟨Nat.le_of_ble_eq_true rfl, Nat.le_of_ble_eq_true rfl⟩ (fun H locs X => ?_)
      clear hcl
      obtain ⟨r17, hcl, hm⟩ := bnd hm
      refine kS0 C X (kX6_ones l g r15 r17 hcl) (cw_X6_leastBound_X6_ones_157 C) (As := [.int r15]) rfl hl (rest := []) rfl (Nat.le_of_ble_eq_true rfl) (st2 := [.int r17]) rfl dX6_leastBound_67 ⟨Nat.le_of_ble_eq_true rfl, Nat.le_of_ble_eq_true rfl⟩ (fun H locs X => ?_)
      clear hcl
      refine lv_iload_n hx hb dX6_leastBound_70 rfl (lv_at hl 2 rfl) ?_
      refine lv_icmp_le (tgt := 80) hx hb dX6_leastBound_71 (by decide) (fun hc => ?_) (fun hc => ?_)
      · have hm := ifp hc hm
        cases sm hm
        cases sm hm2
        exact kk _ _ _ X (lv_sub hl [4] rfl)
      · have hm := ifn hc hm
        refine lv_iinc (v := x11 + 1) (lv' := [(4, .int (x11 + 1)), (0, .ref (a 0)), (1, .int c8), (2, .int c9), (3, .int c10)]) hx hb dX6_leastBound_74 hl (k := 4) rfl rfl (by decide) rfl (fun ls hl => ?_)
        refine lv_goto (tgt := 52) hx hb dX6_leastBound_77 (by decide) ?_
        cases sm hm
        exact ih _ _ hm2 _ _ _ X (lv_sub hl [1, 2, 3, 4, 0] rfl)
noncomputable def fX6_leastBound (p1 : Int32) (p2 : Int32) (p3 : Int32) (u : MS) : Option (Int32 × MS) := (fX6_isStroke p1 u).bind fun r1 => ((if r1 = 0 then (some 1) else ((fX6_in p2 2 24).bind fun r5 => if r5 = 0 then (some 2) else ((fX6_in p3 0 1).bind fun r6 => if r6 = 0 then (some 2) else (some 0)))) : Option (Int32)).bind fun v4 => lt (M_s_thrown u v4) fun u7 => if (M_thrown u7) ≤ 0 then ((lX6_leastBound_52 p1 p2 p3 0 u7).bind fun (y18, u19) => ((if 50 < y18 then (some (-1)) else (some y18)) : Option (Int32)).bind fun v20 => some (v20, u19)) else (some (0, u7))
set_option maxRecDepth 100000 in
set_option maxHeartbeats 4000000 in
theorem kX6_leastBound (l : Launch) (g : kG) (a : Nat → Nat) (p1 : Int32) (p2 : Int32) (p3 : Int32) (u : MS) (o1 : Int32) (o2 : MS) (hm : fX6_leastBound p1 p2 p3 u = some (o1, o2)) : KM l yX6_leastBound wsX6_leastBound rX6_leastBound g [.ref (a 0), .int p1, .int p2, .int p3] (wM g a u) (some (.int o1)) (wM g a o2) 0 0 := by
  refine KM.of (nL := 5) (by decide) rfl (Nat.le_of_ble_eq_true rfl) ?_
  intro p e s m args below meth c A ls C X hl
  have C : CT g p s m args meth c RX6 cX6_leastBound 5 (some .int) wsX6_leastBound A := C
  have hx := C.1
  have hb := C.2.1
  have hl : lv_has ls 5 [(0, .ref (a 0)), (1, .int p1), (2, .int p2), (3, .int p3)] := hl
  have hinX6 := in_X6_leastBound_X6
  have hf35 := C.2.2.2.2.2.1 _ fl_X6_leastBound_35
  rw [fX6_leastBound] at hm
  refine lv_aload_n hx hb dX6_leastBound_0 rfl (lv_at hl 0 rfl) ?_
  refine lv_aload_n hx hb dX6_leastBound_1 rfl (lv_at hl 0 rfl) ?_
  refine lv_iload_n hx hb dX6_leastBound_2 rfl (lv_at hl 1 rfl) ?_
  obtain ⟨r1, hcl, hm⟩ := bnd hm
  refine kVW C X (kX6_isStroke l g a p1 u r1 hcl) (cw_X6_leastBound_X6_isStroke_43 C) 0 (ci := 6) rfl rfl (As := [.int p1]) rfl hl (rest := [.ref (a 0)]) rfl (Nat.le_of_ble_eq_true rfl) (st2 := [.int r1, .ref (a 0)]) rfl dX6_leastBound_3 ⟨Nat.le_of_ble_eq_true rfl, Nat.le_of_ble_eq_true rfl⟩ (fun H locs X => ?_)
  clear hcl
  obtain ⟨v4, hE, hm⟩ := bnd hm
  have K : ∀ (H : Heap) (locs : List Loc) (ls : Array Slot), ST g A s H locs (wM g a u) → lv_has ls 5 [(0, .ref (a 0)), (1, .int p1), (2, .int p2), (3, .int p3)] → W p l e rX6_leastBound s m args below meth c H locs 0 0 (kEnd g below args s (some (.int o1)) (wM g a o2) A 0 0) (F0 m 37 ls [.int v4, .ref (a 0)]) := by
    intro H locs ls X hl
    clear hE
    obtain ⟨u7, eu⟩ : ∃ z, z = M_s_thrown u v4 := ⟨_, rfl⟩
    have hm := lt_t eu hm
    refine kput C X 0 (ci := 6) rfl rfl hinX6 tyX6_ok nmX6 0 (by decide) hf35 rfl (ty := .int) (v := .int v4) rfl rfl rfl (Nat.le_of_ble_eq_true rfl) (w2 := wM g a u7) (by subst eu; rfl) dX6_leastBound_37 (fun H locs X => ?_)
    clear eu
    refine lv_aload_n hx hb dX6_leastBound_40 rfl (lv_at hl 0 rfl) ?_
    refine kget C X 0 (ci := 6) rfl rfl hinX6 0 (by decide) hf35 (v := .int (M_thrown u7)) rfl dX6_leastBound_41 ?_
    refine lv_if_le (tgt := 49) hx hb dX6_leastBound_44 (by decide) (fun hc => ?_) (fun hc => ?_)
    · have hm := ifp hc hm
      refine lv_iconst (v := 0) hx hb dX6_leastBound_49 (by decide) ?_
      refine lv_istore (lv' := [(4, .int 0), (0, .ref (a 0)), (1, .int p1), (2, .int p2), (3, .int p3)]) hx hb dX6_leastBound_50 hl (by decide) rfl (fun ls hl => ?_)
      obtain ⟨⟨y18, u19⟩, hL, hm⟩ := bnd hm
      obtain ⟨nn, hn⟩ := lp_run hL
      refine tX6_leastBound_52 a C p1 p2 p3 y18 u19 (fun H locs ls X hl => ?_) nn _ _ hn _ _ _ X (lv_sub hl [1, 2, 3, 4, 0] rfl)
      clear hL hn
      refine lv_iload hx hb dX6_leastBound_80 (lv_at hl 0 rfl) ?_
      refine lv_bipush (v := 50) hx hb dX6_leastBound_82 (by decide) ?_
      obtain ⟨v20, hE, hm⟩ := bnd hm
      have K : ∀ (H : Heap) (locs : List Loc) (ls : Array Slot), ST g A s H locs (wM g a u19) → lv_has ls 5 [] → W p l e rX6_leastBound s m args below meth c H locs 0 0 (kEnd g below args s (some (.int o1)) (wM g a o2) A 0 0) (F0 m 93 ls [.int v20]) := by
        intro H locs ls X hl
        clear hE
        cases sm hm
        exact kiret C X dX6_leastBound_93
      clear hm
      have hm := hE
      clear hE
      refine lv_icmp_gt (tgt := 92) hx hb dX6_leastBound_84 (by decide) (fun hc => ?_) (fun hc => ?_)
      · have hm := ifp hc hm
        refine lv_iconst (v := (-1)) hx hb dX6_leastBound_92 (by decide) ?_
        cases sm hm
        exact K _ _ _ X (lv_sub hl [] rfl)
      · have hm := ifn hc hm
        refine lv_iload hx hb dX6_leastBound_87 (lv_at hl 0 rfl) ?_
        refine lv_goto (tgt := 93) hx hb dX6_leastBound_89 (by decide) ?_
        cases sm hm
        exact K _ _ _ X (lv_sub hl [] rfl)
    · have hm := ifn hc hm
      refine lv_iconst (v := 0) hx hb dX6_leastBound_47 (by decide) ?_
      cases sm hm
      exact kiret C X dX6_leastBound_48
  clear hm
  have hm := hE
  clear hE
  refine lv_if_ne (tgt := 13) hx hb dX6_leastBound_6 (by decide) (fun hc => ?_) (fun hc => ?_)
  · have hm := ifn hc hm
    refine lv_iload_n hx hb dX6_leastBound_13 rfl (lv_at hl 2 rfl) ?_
    refine lv_iconst (v := 2) hx hb dX6_leastBound_14 (by decide) ?_
    refine lv_bipush (v := 24) hx hb dX6_leastBound_15 (by decide) ?_
    obtain ⟨r5, hcl, hm⟩ := bnd hm
    refine kS0 C X (kX6_in l g p2 2 24 r5 hcl) (cw_X6_leastBound_X6_in_39 C) (As := [.int p2, .int 2, .int 24]) rfl hl (rest := [.ref (a 0)]) rfl (Nat.le_of_ble_eq_true rfl) (st2 := [.int r5, .ref (a 0)]) rfl dX6_leastBound_17 ⟨Nat.le_of_ble_eq_true rfl, Nat.le_of_ble_eq_true rfl⟩ (fun H locs X => ?_)
    clear hcl
    refine lv_if_eq (tgt := 36) hx hb dX6_leastBound_20 (by decide) (fun hc => ?_) (fun hc => ?_)
    · have hm := ifp hc hm
      refine lv_iconst (v := 2) hx hb dX6_leastBound_36 (by decide) ?_
      cases sm hm
      exact K _ _ _ X (lv_sub hl [0, 1, 2, 3] rfl)
    · have hm := ifn hc hm
      refine lv_iload_n hx hb dX6_leastBound_23 rfl (lv_at hl 3 rfl) ?_
      refine lv_iconst (v := 0) hx hb dX6_leastBound_24 (by decide) ?_
      refine lv_iconst (v := 1) hx hb dX6_leastBound_25 (by decide) ?_
      obtain ⟨r6, hcl, hm⟩ := bnd hm
      refine kS0 C X (kX6_in l g p3 0 1 r6 hcl) (cw_X6_leastBound_X6_in_39 C) (As := [.int p3, .int 0, .int 1]) rfl hl (rest := [.ref (a 0)]) rfl (Nat.le_of_ble_eq_true rfl) (st2 := [.int r6, .ref (a 0)]) rfl dX6_leastBound_26 ⟨Nat.le_of_ble_eq_true rfl, Nat.le_of_ble_eq_true rfl⟩ (fun H locs X => ?_)
      clear hcl
      refine lv_if_eq (tgt := 36) hx hb dX6_leastBound_29 (by decide) (fun hc => ?_) (fun hc => ?_)
      · have hm := ifp hc hm
        refine lv_iconst (v := 2) hx hb dX6_leastBound_36 (by decide) ?_
        cases sm hm
        exact K _ _ _ X (lv_sub hl [0, 1, 2, 3] rfl)
      · have hm := ifn hc hm
        refine lv_iconst (v := 0) hx hb dX6_leastBound_32 (by decide) ?_
        refine lv_goto (tgt := 37) hx hb dX6_leastBound_33 (by decide) ?_
        cases sm hm
        exact K _ _ _ X (lv_sub hl [0, 1, 2, 3] rfl)
  · have hm := ifp hc hm
    refine lv_iconst (v := 1) hx hb dX6_leastBound_9 (by decide) ?_
    refine lv_goto (tgt := 37) hx hb dX6_leastBound_10 (by decide) ?_
    cases sm hm
    exact K _ _ _ X (lv_sub hl [0, 1, 2, 3] rfl)
