-- X5 BrushStrokes.stroke(IIII)I
abbrev rX5_stroke : Room := { frames := 8, cells := 18, slots := 419, locals := 253 }
theorem fl_X5_stroke_10 : (Cond.fieldLink RX5 10 "BrushStrokes" "sheet" "LBrushStrokes$Sheet;") ∈ wsX5_stroke := by decide +kernel
theorem fl_X5_stroke_19 : (Cond.fieldLink RX5 19 "BrushStrokes" "history" "LBrushStrokes$History;") ∈ wsX5_stroke := by decide +kernel
theorem in_X5_stroke_X5 : ∀ w ∈ u_ws RX5 TX5 5, w ∈ wsX5_stroke := by decide +kernel
theorem cw_X5_stroke_X5_requireRoomForStroke_45 {p : Program} {s : State} {m : MethodId} {args : Array Value} {meth : Method} {c : Code} {g : kG} {A : Nat → Prop} (C : CT g p s m args meth c RX5 cX5_stroke 6 (some .int) wsX5_stroke A) : CallW rX5_stroke s args RX5 RX5 45 yX5_requireRoomForStroke cX5_requireRoomForStroke 1 none wsX5_requireRoomForStroke rX5_requireRoomForStroke 1 6 0 := cwV 0 C.2.2.2.2.2.1 gX5_stroke_X5_requireRoomForStroke rfl rfl rfl (by decide +kernel) ⟨Nat.le_of_ble_eq_true rfl, Nat.le_of_ble_eq_true rfl⟩
theorem cw_X5_stroke_X5_requirePlace_41 {p : Program} {s : State} {m : MethodId} {args : Array Value} {meth : Method} {c : Code} {g : kG} {A : Nat → Prop} (C : CT g p s m args meth c RX5 cX5_stroke 6 (some .int) wsX5_stroke A) : CallB rX5_stroke s args RX5 41 yX5_requirePlace cX5_requirePlace 2 none wsX5_requirePlace rX5_requirePlace 2 12 2 ∧ (Cond.static yX5_requirePlace).before args s = true := va_cwS 2 C.2.2.2.2.2.1 gX5_stroke_X5_requirePlace rfl rfl rfl (by decide +kernel) ⟨Nat.le_of_ble_eq_true rfl, Nat.le_of_ble_eq_true rfl⟩
theorem cw_X5_stroke_X0_save_48 {p : Program} {s : State} {m : MethodId} {args : Array Value} {meth : Method} {c : Code} {g : kG} {A : Nat → Prop} (C : CT g p s m args meth c RX5 cX5_stroke 6 (some .int) wsX5_stroke A) : CallW rX5_stroke s args RX5 RX0 48 yX0_save cX0_save 4 none wsX0_save rX0_save 13 389 1 := cwV 1 C.2.2.2.2.2.1 gX5_stroke_X0_save rfl rfl rfl (by decide +kernel) ⟨Nat.le_of_ble_eq_true rfl, Nat.le_of_ble_eq_true rfl⟩
theorem cw_X5_stroke_X1_openStroke_52 {p : Program} {s : State} {m : MethodId} {args : Array Value} {meth : Method} {c : Code} {g : kG} {A : Nat → Prop} (C : CT g p s m args meth c RX5 cX5_stroke 6 (some .int) wsX5_stroke A) : CallW rX5_stroke s args RX5 RX1 52 yX1_openStroke cX1_openStroke 2 (some (.object "BrushStrokes$Stroke")) wsX1_openStroke rX1_openStroke 0 0 0 := cwV 0 C.2.2.2.2.2.1 gX5_stroke_X1_openStroke rfl rfl rfl (by decide +kernel) ⟨Nat.le_of_ble_eq_true rfl, Nat.le_of_ble_eq_true rfl⟩
theorem cw_X5_stroke_X3_addPoint_56 {p : Program} {s : State} {m : MethodId} {args : Array Value} {meth : Method} {c : Code} {g : kG} {A : Nat → Prop} (C : CT g p s m args meth c RX5 cX5_stroke 6 (some .int) wsX5_stroke A) : CallW rX5_stroke s args RX5 RX3 56 yX3_addPoint cX3_addPoint 4 none wsX3_addPoint rX3_addPoint 0 0 3 := cwV 3 C.2.2.2.2.2.1 gX5_stroke_X3_addPoint rfl rfl rfl (by decide +kernel) ⟨Nat.le_of_ble_eq_true rfl, Nat.le_of_ble_eq_true rfl⟩
theorem cw_X5_stroke_X1_strokeCount_62 {p : Program} {s : State} {m : MethodId} {args : Array Value} {meth : Method} {c : Code} {g : kG} {A : Nat → Prop} (C : CT g p s m args meth c RX5 cX5_stroke 6 (some .int) wsX5_stroke A) : CallW rX5_stroke s args RX5 RX1 62 yX1_strokeCount cX1_strokeCount 1 (some .int) wsX1_strokeCount rX1_strokeCount 0 0 0 := cwV 0 C.2.2.2.2.2.1 gX5_stroke_X1_strokeCount rfl rfl rfl (by decide +kernel) ⟨Nat.le_of_ble_eq_true rfl, Nat.le_of_ble_eq_true rfl⟩
noncomputable def fX5_stroke (p1 : Int32) (p2 : Int32) (p3 : Int32) (p4 : Int32) (u : ShS) (hs : HS) : Option ((Nat × ShS × HS) ⊕ (Int32 × ShS × HS)) := (fX5_requirePlace p1 p2).bind fun q => Sum.elim (fun E => some (.inl (E, u, hs))) (fun _ => (fX5_requirePlace p3 p4).bind fun q => Sum.elim (fun E => some (.inl (E, u, hs))) (fun _ => (fX5_requireRoomForStroke u).bind fun q => Sum.elim (fun E => some (.inl (E, u, hs))) (fun _ => (fX0_save hs u).bind fun s1 => (fX1_openStroke u).bind fun (q3, s4) => gd (decide (q3 < 5)) ((fX3_addPoint p1 p2 5 (Sh_st s4 q3)).bind fun s5 => lt (Sh_s_st s4 q3 s5) fun u6 => gd (decide (q3 < 5)) ((fX3_addPoint p3 p4 5 (Sh_st u6 q3)).bind fun s7 => lt (Sh_s_st u6 q3 s7) fun u8 => (fX1_strokeCount u8).bind fun r9 => some (.inr (r9 - 1, u8, s1))))) q) q) q
def obX5_stroke (g : kG) (D : Nat → Nat → Nat) (R : kAd) (u : ShS) (ts : TS) (bs : SS) (ps : PS) (hs : HS) (ns : NS) : (Nat × ShS × HS) ⊕ (Int32 × ShS × HS) → kOut kAd
  | .inl (E, u2, hs2) => .inl (E, fun R => wB g D R u2 ts bs ps hs2 ns)
  | .inr (v, u2, hs2) => .inr ((some (.int v)), fun R => wB g D R u2 ts bs ps hs2 ns)
set_option maxRecDepth 100000 in
set_option maxHeartbeats 4000000 in
theorem kX5_stroke (l : Launch) (hl9 : l.stackTraces = false) (g : kG) (D : Nat → Nat → Nat) (R : kAd) (p1 : Int32) (p2 : Int32) (p3 : Int32) (p4 : Int32) (u : ShS) (ts : TS) (bs : SS) (ps : PS) (hs : HS) (ns : NS) (o : (Nat × ShS × HS) ⊕ (Int32 × ShS × HS)) (hm : fX5_stroke p1 p2 p3 p4 u hs = some o) : KX (S := kAd) l yX5_stroke wsX5_stroke rX5_stroke g [.ref (D 0 0), .int p1, .int p2, .int p3, .int p4] (wB g D R u ts bs ps hs ns) (obX5_stroke g D R u ts bs ps hs ns o) 18 419 := by
  refine KX.of (nL := 6) (by decide) rfl (Nat.le_of_ble_eq_true rfl) ?_
  intro p e s m args below meth c A ls C htab X hl
  have C : CT g p s m args meth c RX5 cX5_stroke 6 (some .int) wsX5_stroke A := C
  have hx := C.1
  have hb := C.2.1
  have hl : lv_has ls 6 [(0, .ref (D 0 0)), (1, .int p1), (2, .int p2), (3, .int p3), (4, .int p4)] := hl
  have hinX5 := in_X5_stroke_X5
  have hf10 := C.2.2.2.2.2.1 _ fl_X5_stroke_10
  have hf19 := C.2.2.2.2.2.1 _ fl_X5_stroke_19
  rw [fX5_stroke] at hm
  refine lv_iload_n hx hb dX5_stroke_0 rfl (lv_at hl 1 rfl) ?_
  refine lv_iload_n hx hb dX5_stroke_1 rfl (lv_at hl 2 rfl) ?_
  obtain ⟨q, hcl, hm⟩ := bnd hm
  rcases q with E | ⟨⟩
  · have hm := se_l hm
    cases sm hm
    exact kxSt _ (pm_no _) C htab X (kX5_requirePlace l hl9 g p1 p2 (.inl E) hcl) (cw_X5_stroke_X5_requirePlace_41 C) (As := [.int p1, .int p2]) rfl hl (rest := []) rfl (Nat.le_of_ble_eq_true rfl) dX5_stroke_2 ⟨Nat.le_of_ble_eq_true rfl, Nat.le_of_ble_eq_true rfl⟩ (Nat.le_of_ble_eq_true rfl) (Nat.le_of_ble_eq_true rfl) (fun _ => ⟨R, (pm_ni _)⟩)
  have hm := se_r hm
  refine kxS _ (pm_no _) C X (kX5_requirePlace l hl9 g p1 p2 (.inr ()) hcl) (cw_X5_stroke_X5_requirePlace_41 C) (As := [.int p1, .int p2]) rfl hl (rest := []) rfl (Nat.le_of_ble_eq_true rfl) (st2 := []) rfl dX5_stroke_2 ⟨Nat.le_of_ble_eq_true rfl, Nat.le_of_ble_eq_true rfl⟩ (w3 := (fun _ => wB g D R u ts bs ps hs ns)) (fun _ => (pm_ni _)) (fun _ H locs X => ?_)
  clear hcl
  refine lv_iload_n hx hb dX5_stroke_5 rfl (lv_at hl 3 rfl) ?_
  refine lv_iload hx hb dX5_stroke_6 (lv_at hl 4 rfl) ?_
  obtain ⟨q, hcl, hm⟩ := bnd hm
  rcases q with E | ⟨⟩
  · have hm := se_l hm
    cases sm hm
    exact kxSt _ (pm_no _) C htab X (kX5_requirePlace l hl9 g p3 p4 (.inl E) hcl) (cw_X5_stroke_X5_requirePlace_41 C) (As := [.int p3, .int p4]) rfl hl (rest := []) rfl (Nat.le_of_ble_eq_true rfl) dX5_stroke_8 ⟨Nat.le_of_ble_eq_true rfl, Nat.le_of_ble_eq_true rfl⟩ (Nat.le_of_ble_eq_true rfl) (Nat.le_of_ble_eq_true rfl) (fun _ => ⟨R, (pm_ni _)⟩)
  have hm := se_r hm
  refine kxS _ (pm_no _) C X (kX5_requirePlace l hl9 g p3 p4 (.inr ()) hcl) (cw_X5_stroke_X5_requirePlace_41 C) (As := [.int p3, .int p4]) rfl hl (rest := []) rfl (Nat.le_of_ble_eq_true rfl) (st2 := []) rfl dX5_stroke_8 ⟨Nat.le_of_ble_eq_true rfl, Nat.le_of_ble_eq_true rfl⟩ (w3 := (fun _ => wB g D R u ts bs ps hs ns)) (fun _ => (pm_ni _)) (fun _ H locs X => ?_)
  clear hcl
  refine lv_aload_n hx hb dX5_stroke_11 rfl (lv_at hl 0 rfl) ?_
  obtain ⟨q, hcl, hm⟩ := bnd hm
  rcases q with E | ⟨⟩
  · have hm := se_l hm
    cases sm hm
    exact kxVt _ (pm_wh _) C htab X (kX5_requireRoomForStroke l hl9 g D R u ts bs ps hs ns (.inl E) hcl) (cw_X5_stroke_X5_requireRoomForStroke_45 C) 0 (ci := 5) rfl rfl (As := []) rfl hl (rest := []) rfl (Nat.le_of_ble_eq_true rfl) dX5_stroke_12 ⟨Nat.le_of_ble_eq_true rfl, Nat.le_of_ble_eq_true rfl⟩ (Nat.le_of_ble_eq_true rfl) (Nat.le_of_ble_eq_true rfl) (fun _ => ⟨R, (pm_wi _)⟩)
  have hm := se_r hm
  refine kxV _ (pm_wh _) C X (kX5_requireRoomForStroke l hl9 g D R u ts bs ps hs ns (.inr ()) hcl) (cw_X5_stroke_X5_requireRoomForStroke_45 C) 0 (ci := 5) rfl rfl (As := []) rfl hl (rest := []) rfl (Nat.le_of_ble_eq_true rfl) (st2 := []) rfl dX5_stroke_12 ⟨Nat.le_of_ble_eq_true rfl, Nat.le_of_ble_eq_true rfl⟩ (w3 := (fun _ => wB g D R u ts bs ps hs ns)) (fun _ => (pm_wi _)) (fun _ H locs X => ?_)
  clear hcl
  refine lv_aload_n hx hb dX5_stroke_15 rfl (lv_at hl 0 rfl) ?_
  refine kget C X 0 (ci := 5) rfl rfl hinX5 1 (by decide) hf19 (v := .ref (D 5 0)) rfl dX5_stroke_16 ?_
  refine lv_aload_n hx hb dX5_stroke_19 rfl (lv_at hl 0 rfl) ?_
  refine kget C X 0 (ci := 5) rfl rfl hinX5 0 (by decide) hf10 (v := .ref (D 1 0)) rfl dX5_stroke_20 ?_
  obtain ⟨s1, hcl, hm⟩ := bnd hm
  refine kxV _ b41_out C X (kX0_save l g (D 5) (D 1) R.1 hs u s1 hcl) (cw_X5_stroke_X0_save_48 C) 0 (ci := 0) rfl rfl (As := [.ref (D 1 0)]) rfl hl (rest := []) rfl (Nat.le_of_ble_eq_true rfl) (st2 := []) rfl dX5_stroke_23 ⟨Nat.le_of_ble_eq_true rfl, Nat.le_of_ble_eq_true rfl⟩ (w3 := (fun r2 => wB g D (r2, R.2) u ts bs ps s1 ns)) (fun r2 => b41_in r2 s1 u) (fun r2 H locs X => ?_)
  clear hcl
  refine lv_aload_n hx hb dX5_stroke_26 rfl (lv_at hl 0 rfl) ?_
  refine kget C X 0 (ci := 5) rfl rfl hinX5 0 (by decide) hf10 (v := .ref (D 1 0)) rfl dX5_stroke_27 ?_
  obtain ⟨⟨q3, s4⟩, hcl, hm⟩ := bnd hm
  refine kVp _ b1_out C X (kX1_openStroke l g (D 1) u q3 s4 hcl) (cw_X5_stroke_X1_openStroke_52 C) 0 (ci := 1) rfl rfl (As := []) rfl hl (rest := []) rfl (Nat.le_of_ble_eq_true rfl) (st2 := [.ref (D 1 (3 + 2 * q3))]) rfl dX5_stroke_30 ⟨Nat.le_of_ble_eq_true rfl, Nat.le_of_ble_eq_true rfl⟩ (w3 := wB g D (r2, R.2) s4 ts bs ps s1 ns) (b1_in s4) (fun H locs X => ?_)
  clear hcl
  refine lv_astore (lv' := [(5, .ref (D 1 (3 + 2 * q3))), (0, .ref (D 0 0)), (1, .int p1), (2, .int p2), (3, .int p3), (4, .int p4)]) hx hb dX5_stroke_33 hl (by decide) rfl (fun ls hl => ?_)
  refine lv_aload hx hb dX5_stroke_35 (lv_at hl 0 rfl) ?_
  refine lv_iload_n hx hb dX5_stroke_37 rfl (lv_at hl 2 rfl) ?_
  refine lv_iload_n hx hb dX5_stroke_38 rfl (lv_at hl 3 rfl) ?_
  refine lv_iconst (v := 5) hx hb dX5_stroke_39 (by decide) ?_
  obtain ⟨hgk, hm⟩ := gd_t hm
  have hgk := of_decide_eq_true hgk
  obtain ⟨s5, hcl, hm⟩ := bnd hm
  refine kVp _ (bs_out hgk) C X (kX3_addPoint l g (sa (D 1) q3) p1 p2 5 (Sh_st s4 q3) s5 hcl) (cw_X5_stroke_X3_addPoint_56 C) 0 (ci := 3) rfl rfl (As := [.int p1, .int p2, .int 5]) rfl hl (rest := []) rfl (Nat.le_of_ble_eq_true rfl) (st2 := []) rfl dX5_stroke_40 ⟨Nat.le_of_ble_eq_true rfl, Nat.le_of_ble_eq_true rfl⟩ (w3 := wB g D (r2, R.2) (Sh_s_st s4 q3 s5) ts bs ps s1 ns) (bs_in hgk s5) (fun H locs X => ?_)
  clear hcl
  obtain ⟨u6, eu⟩ : ∃ z, z = Sh_s_st s4 q3 s5 := ⟨_, rfl⟩
  have hm := lt_t eu hm
  rw [← eu] at X
  clear eu
  refine lv_aload hx hb dX5_stroke_43 (lv_at hl 0 rfl) ?_
  refine lv_iload_n hx hb dX5_stroke_45 rfl (lv_at hl 4 rfl) ?_
  refine lv_iload hx hb dX5_stroke_46 (lv_at hl 5 rfl) ?_
  refine lv_iconst (v := 5) hx hb dX5_stroke_48 (by decide) ?_
  obtain ⟨hgk, hm⟩ := gd_t hm
  have hgk := of_decide_eq_true hgk
  obtain ⟨s7, hcl, hm⟩ := bnd hm
  refine kVp _ (bs_out hgk) C X (kX3_addPoint l g (sa (D 1) q3) p3 p4 5 (Sh_st u6 q3) s7 hcl) (cw_X5_stroke_X3_addPoint_56 C) 0 (ci := 3) rfl rfl (As := [.int p3, .int p4, .int 5]) rfl hl (rest := []) rfl (Nat.le_of_ble_eq_true rfl) (st2 := []) rfl dX5_stroke_49 ⟨Nat.le_of_ble_eq_true rfl, Nat.le_of_ble_eq_true rfl⟩ (w3 := wB g D (r2, R.2) (Sh_s_st u6 q3 s7) ts bs ps s1 ns) (bs_in hgk s7) (fun H locs X => ?_)
  clear hcl
  obtain ⟨u8, eu⟩ : ∃ z, z = Sh_s_st u6 q3 s7 := ⟨_, rfl⟩
  have hm := lt_t eu hm
  rw [← eu] at X
  clear eu
  refine lv_aload_n hx hb dX5_stroke_52 rfl (lv_at hl 1 rfl) ?_
  refine kget C X 0 (ci := 5) rfl rfl hinX5 0 (by decide) hf10 (v := .ref (D 1 0)) rfl dX5_stroke_53 ?_
  obtain ⟨r9, hcl, hm⟩ := bnd hm
  refine kVp _ b1_out C X (kX1_strokeCount l g (D 1) u8 r9 hcl) (cw_X5_stroke_X1_strokeCount_62 C) 0 (ci := 1) rfl rfl (As := []) rfl hl (rest := []) rfl (Nat.le_of_ble_eq_true rfl) (st2 := [.int r9]) rfl dX5_stroke_56 ⟨Nat.le_of_ble_eq_true rfl, Nat.le_of_ble_eq_true rfl⟩ (w3 := wB g D (r2, R.2) u8 ts bs ps s1 ns) (b1_in u8) (fun H locs X => ?_)
  clear hcl
  refine lv_iconst (v := 1) hx hb dX5_stroke_59 (by decide) ?_
  refine lv_isub hx hb dX5_stroke_60 ?_
  cases sm hm
  exact kxret (r2, R.2) (Nat.le_of_ble_eq_true rfl) (Nat.le_of_ble_eq_true rfl) (kiret C X dX5_stroke_61)
-- X5 BrushStrokes.insert(IIIII)I
abbrev rX5_insert : Room := { frames := 8, cells := 17, slots := 413, locals := 253 }
theorem fl_X5_insert_10 : (Cond.fieldLink RX5 10 "BrushStrokes" "sheet" "LBrushStrokes$Sheet;") ∈ wsX5_insert := by decide +kernel
theorem fl_X5_insert_19 : (Cond.fieldLink RX5 19 "BrushStrokes" "history" "LBrushStrokes$History;") ∈ wsX5_insert := by decide +kernel
theorem in_X5_insert_X5 : ∀ w ∈ u_ws RX5 TX5 5, w ∈ wsX5_insert := by decide +kernel
theorem xw_X5_insert_98 : (Cond.classLink RX5 94 (kEx 0)) ∈ wsX5_insert ∧ (Cond.initialized (kEx 0)) ∈ wsX5_insert ∧ (∀ w ∈ (vx_atS RX5 98 (kEx 0) ["java/lang/RuntimeException", "java/lang/Exception"]).filter goodWord, w ∈ wsX5_insert) ∧ (∀ w ∈ (vx_atS RX5 98 (kEx 0) ["java/lang/RuntimeException", "java/lang/Exception"]).filter (fun w => !goodWord w), w ∈ Cond.castable (kEx 0) (kEx 0) :: kDecl.map Cond.declares) ∧ ∀ w ∈ Cond.classLink RX5 94 (kEx 0) :: Cond.initialized (kEx 0) :: vx_atS RX5 98 (kEx 0) ["java/lang/RuntimeException", "java/lang/Exception"], vx_ot w = true := by decide +kernel
theorem xw_X5_insert_107 : (Cond.classLink RX5 103 (kEx 2)) ∈ wsX5_insert ∧ (Cond.initialized (kEx 2)) ∈ wsX5_insert ∧ (∀ w ∈ (vx_atS RX5 107 (kEx 2) ["java/lang/RuntimeException", "java/lang/Exception"]).filter goodWord, w ∈ wsX5_insert) ∧ (∀ w ∈ (vx_atS RX5 107 (kEx 2) ["java/lang/RuntimeException", "java/lang/Exception"]).filter (fun w => !goodWord w), w ∈ Cond.castable (kEx 2) (kEx 2) :: kDecl.map Cond.declares) ∧ ∀ w ∈ Cond.classLink RX5 103 (kEx 2) :: Cond.initialized (kEx 2) :: vx_atS RX5 107 (kEx 2) ["java/lang/RuntimeException", "java/lang/Exception"], vx_ot w = true := by decide +kernel
theorem cw_X5_insert_X3_size_91 {p : Program} {s : State} {m : MethodId} {args : Array Value} {meth : Method} {c : Code} {g : kG} {A : Nat → Prop} (C : CT g p s m args meth c RX5 cX5_insert 7 (some .int) wsX5_insert A) : CallW rX5_insert s args RX5 RX3 91 yX3_size cX3_size 1 (some .int) wsX3_size rX3_size 0 0 0 := cwV 0 C.2.2.2.2.2.1 gX5_insert_X3_size rfl rfl rfl (by decide +kernel) ⟨Nat.le_of_ble_eq_true rfl, Nat.le_of_ble_eq_true rfl⟩
theorem cw_X5_insert_X5_existingStroke_87 {p : Program} {s : State} {m : MethodId} {args : Array Value} {meth : Method} {c : Code} {g : kG} {A : Nat → Prop} (C : CT g p s m args meth c RX5 cX5_insert 7 (some .int) wsX5_insert A) : CallW rX5_insert s args RX5 RX5 87 yX5_existingStroke cX5_existingStroke 2 (some (.object "BrushStrokes$Stroke")) wsX5_existingStroke rX5_existingStroke 1 6 1 := cwV 1 C.2.2.2.2.2.1 gX5_insert_X5_existingStroke rfl rfl rfl (by decide +kernel) ⟨Nat.le_of_ble_eq_true rfl, Nat.le_of_ble_eq_true rfl⟩
theorem cw_X5_insert_X5_requirePlace_41 {p : Program} {s : State} {m : MethodId} {args : Array Value} {meth : Method} {c : Code} {g : kG} {A : Nat → Prop} (C : CT g p s m args meth c RX5 cX5_insert 7 (some .int) wsX5_insert A) : CallB rX5_insert s args RX5 41 yX5_requirePlace cX5_requirePlace 2 none wsX5_requirePlace rX5_requirePlace 2 12 2 ∧ (Cond.static yX5_requirePlace).before args s = true := va_cwS 2 C.2.2.2.2.2.1 gX5_insert_X5_requirePlace rfl rfl rfl (by decide +kernel) ⟨Nat.le_of_ble_eq_true rfl, Nat.le_of_ble_eq_true rfl⟩
theorem cw_X5_insert_X5_requireWidth_99 {p : Program} {s : State} {m : MethodId} {args : Array Value} {meth : Method} {c : Code} {g : kG} {A : Nat → Prop} (C : CT g p s m args meth c RX5 cX5_insert 7 (some .int) wsX5_insert A) : CallB rX5_insert s args RX5 99 yX5_requireWidth cX5_requireWidth 1 none wsX5_requireWidth rX5_requireWidth 1 6 1 ∧ (Cond.static yX5_requireWidth).before args s = true := va_cwS 1 C.2.2.2.2.2.1 gX5_insert_X5_requireWidth rfl rfl rfl (by decide +kernel) ⟨Nat.le_of_ble_eq_true rfl, Nat.le_of_ble_eq_true rfl⟩
theorem cw_X5_insert_X0_save_48 {p : Program} {s : State} {m : MethodId} {args : Array Value} {meth : Method} {c : Code} {g : kG} {A : Nat → Prop} (C : CT g p s m args meth c RX5 cX5_insert 7 (some .int) wsX5_insert A) : CallW rX5_insert s args RX5 RX0 48 yX0_save cX0_save 4 none wsX0_save rX0_save 13 389 1 := cwV 1 C.2.2.2.2.2.1 gX5_insert_X0_save rfl rfl rfl (by decide +kernel) ⟨Nat.le_of_ble_eq_true rfl, Nat.le_of_ble_eq_true rfl⟩
theorem cw_X5_insert_X3_insertPoint_108 {p : Program} {s : State} {m : MethodId} {args : Array Value} {meth : Method} {c : Code} {g : kG} {A : Nat → Prop} (C : CT g p s m args meth c RX5 cX5_insert 7 (some .int) wsX5_insert A) : CallW rX5_insert s args RX5 RX3 108 yX3_insertPoint cX3_insertPoint 6 none wsX3_insertPoint rX3_insertPoint 0 0 4 := cwV 4 C.2.2.2.2.2.1 gX5_insert_X3_insertPoint rfl rfl rfl (by decide +kernel) ⟨Nat.le_of_ble_eq_true rfl, Nat.le_of_ble_eq_true rfl⟩
noncomputable def fX5_insert (p1 : Int32) (p2 : Int32) (p3 : Int32) (p4 : Int32) (p5 : Int32) (u : ShS) (hs : HS) : Option ((Nat × ShS × HS) ⊕ (Int32 × ShS × HS)) := (fX5_existingStroke p1 u).bind fun q => Sum.elim (fun E => some (.inl (E, u, hs))) (fun q1 => if p2 < 0 then (some (.inl (0, u, hs))) else (gd (decide (q1 < 5)) ((fX3_size (Sh_st u q1)).bind fun r2 => if p2 ≤ r2 then ((fX5_requirePlace p3 p4).bind fun q => Sum.elim (fun E => some (.inl (E, u, hs))) (fun _ => (fX5_requireWidth p5).bind fun q => Sum.elim (fun E => some (.inl (E, u, hs))) (fun _ => gd (decide (q1 < 5)) ((fX3_size (Sh_st u q1)).bind fun r3 => if r3 < 24 then ((fX0_save hs u).bind fun s4 => gd (decide (q1 < 5)) ((fX3_insertPoint p2 p3 p4 p5 (Sh_st u q1)).bind fun s6 => lt (Sh_s_st u q1 s6) fun u7 => gd (decide (q1 < 5)) ((fX3_size (Sh_st u7 q1)).bind fun r8 => some (.inr (r8, u7, s4))))) else (some (.inl (2, u, hs))))) q) q) else (some (.inl (0, u, hs)))))) q
def obX5_insert (g : kG) (D : Nat → Nat → Nat) (R : kAd) (u : ShS) (ts : TS) (bs : SS) (ps : PS) (hs : HS) (ns : NS) : (Nat × ShS × HS) ⊕ (Int32 × ShS × HS) → kOut kAd
  | .inl (E, u2, hs2) => .inl (E, fun R => wB g D R u2 ts bs ps hs2 ns)
  | .inr (v, u2, hs2) => .inr ((some (.int v)), fun R => wB g D R u2 ts bs ps hs2 ns)
set_option maxRecDepth 100000 in
set_option maxHeartbeats 4000000 in
theorem kX5_insert (l : Launch) (hl9 : l.stackTraces = false) (g : kG) (D : Nat → Nat → Nat) (R : kAd) (p1 : Int32) (p2 : Int32) (p3 : Int32) (p4 : Int32) (p5 : Int32) (u : ShS) (ts : TS) (bs : SS) (ps : PS) (hs : HS) (ns : NS) (o : (Nat × ShS × HS) ⊕ (Int32 × ShS × HS)) (hm : fX5_insert p1 p2 p3 p4 p5 u hs = some o) : KX (S := kAd) l yX5_insert wsX5_insert rX5_insert g [.ref (D 0 0), .int p1, .int p2, .int p3, .int p4, .int p5] (wB g D R u ts bs ps hs ns) (obX5_insert g D R u ts bs ps hs ns o) 17 413 := by
  refine KX.of (nL := 7) (by decide) rfl (Nat.le_of_ble_eq_true rfl) ?_
  intro p e s m args below meth c A ls C htab X hl
  have C : CT g p s m args meth c RX5 cX5_insert 7 (some .int) wsX5_insert A := C
  have hx := C.1
  have hb := C.2.1
  have hl : lv_has ls 7 [(0, .ref (D 0 0)), (1, .int p1), (2, .int p2), (3, .int p3), (4, .int p4), (5, .int p5)] := hl
  have hinX5 := in_X5_insert_X5
  have hf10 := C.2.2.2.2.2.1 _ fl_X5_insert_10
  have hf19 := C.2.2.2.2.2.1 _ fl_X5_insert_19
  rw [fX5_insert] at hm
  refine lv_aload_n hx hb dX5_insert_0 rfl (lv_at hl 0 rfl) ?_
  refine lv_iload_n hx hb dX5_insert_1 rfl (lv_at hl 1 rfl) ?_
  obtain ⟨q, hcl, hm⟩ := bnd hm
  rcases q with E | q1
  · have hm := se_l hm
    cases sm hm
    exact kxVt _ (pm_wh _) C htab X (kX5_existingStroke l hl9 g D R p1 u ts bs ps hs ns (.inl E) hcl) (cw_X5_insert_X5_existingStroke_87 C) 0 (ci := 5) rfl rfl (As := [.int p1]) rfl hl (rest := []) rfl (Nat.le_of_ble_eq_true rfl) dX5_insert_2 ⟨Nat.le_of_ble_eq_true rfl, Nat.le_of_ble_eq_true rfl⟩ (Nat.le_of_ble_eq_true rfl) (Nat.le_of_ble_eq_true rfl) (fun _ => ⟨R, (pm_wi _)⟩)
  have hm := se_r hm
  refine kxV _ (pm_wh _) C X (kX5_existingStroke l hl9 g D R p1 u ts bs ps hs ns (.inr q1) hcl) (cw_X5_insert_X5_existingStroke_87 C) 0 (ci := 5) rfl rfl (As := [.int p1]) rfl hl (rest := []) rfl (Nat.le_of_ble_eq_true rfl) (st2 := [.ref (D 1 (3 + 2 * q1))]) rfl dX5_insert_2 ⟨Nat.le_of_ble_eq_true rfl, Nat.le_of_ble_eq_true rfl⟩ (w3 := (fun _ => wB g D R u ts bs ps hs ns)) (fun _ => (pm_wi _)) (fun _ H locs X => ?_)
  clear hcl
  refine lv_astore (lv' := [(6, .ref (D 1 (3 + 2 * q1))), (0, .ref (D 0 0)), (1, .int p1), (2, .int p2), (3, .int p3), (4, .int p4), (5, .int p5)]) hx hb dX5_insert_5 hl (by decide) rfl (fun ls hl => ?_)
  refine lv_iload_n hx hb dX5_insert_7 rfl (lv_at hl 3 rfl) ?_
  refine lv_if_lt (tgt := 20) hx hb dX5_insert_8 (by decide) (fun hc => ?_) (fun hc => ?_)
  · have hm := ifp hc hm
    cases sm hm
    exact kxthrow (E := 0) R (names := ["java/lang/RuntimeException", "java/lang/Exception"]) (ik := 94) (is := 96) (ic := 98) (text := "no point can get this number") C htab X hl9 hl (by decide) (by decide) rfl (by decide) xw_X5_insert_98.1 xw_X5_insert_98.2.1 xw_X5_insert_98.2.2.1 xw_X5_insert_98.2.2.2.1 (by decide) xw_X5_insert_98.2.2.2.2 dX5_insert_20 dX5_insert_23 dX5_insert_24 dX5_insert_26 dX5_insert_29 (Nat.le_of_ble_eq_true rfl) (Nat.le_of_ble_eq_true rfl) (Nat.le_of_ble_eq_true rfl) (Nat.le_of_ble_eq_true rfl) (Nat.le_of_ble_eq_true rfl) (Nat.le_of_ble_eq_true rfl)
  · have hm := ifn hc hm
    refine lv_iload_n hx hb dX5_insert_11 rfl (lv_at hl 3 rfl) ?_
    refine lv_aload hx hb dX5_insert_12 (lv_at hl 0 rfl) ?_
    obtain ⟨hgk, hm⟩ := gd_t hm
    have hgk := of_decide_eq_true hgk
    obtain ⟨r2, hcl, hm⟩ := bnd hm
    refine kVp _ (bs_out hgk) C X (kX3_size l g (sa (D 1) q1) (Sh_st u q1) r2 hcl) (cw_X5_insert_X3_size_91 C) 0 (ci := 3) rfl rfl (As := []) rfl hl (rest := [.int p2]) rfl (Nat.le_of_ble_eq_true rfl) (st2 := [.int r2, .int p2]) rfl dX5_insert_14 ⟨Nat.le_of_ble_eq_true rfl, Nat.le_of_ble_eq_true rfl⟩ (w3 := wB g D R u ts bs ps hs ns) (bs_in0 hgk) (fun H locs X => ?_)
    clear hcl
    refine lv_icmp_le (tgt := 30) hx hb dX5_insert_17 (by decide) (fun hc => ?_) (fun hc => ?_)
    · have hm := ifp hc hm
      refine lv_iload_n hx hb dX5_insert_30 rfl (lv_at hl 4 rfl) ?_
      refine lv_iload hx hb dX5_insert_31 (lv_at hl 5 rfl) ?_
      obtain ⟨q, hcl, hm⟩ := bnd hm
      rcases q with E | ⟨⟩
      · have hm := se_l hm
        cases sm hm
        exact kxSt _ (pm_no _) C htab X (kX5_requirePlace l hl9 g p3 p4 (.inl E) hcl) (cw_X5_insert_X5_requirePlace_41 C) (As := [.int p3, .int p4]) rfl hl (rest := []) rfl (Nat.le_of_ble_eq_true rfl) dX5_insert_33 ⟨Nat.le_of_ble_eq_true rfl, Nat.le_of_ble_eq_true rfl⟩ (Nat.le_of_ble_eq_true rfl) (Nat.le_of_ble_eq_true rfl) (fun _ => ⟨R, (pm_ni _)⟩)
      have hm := se_r hm
      refine kxS _ (pm_no _) C X (kX5_requirePlace l hl9 g p3 p4 (.inr ()) hcl) (cw_X5_insert_X5_requirePlace_41 C) (As := [.int p3, .int p4]) rfl hl (rest := []) rfl (Nat.le_of_ble_eq_true rfl) (st2 := []) rfl dX5_insert_33 ⟨Nat.le_of_ble_eq_true rfl, Nat.le_of_ble_eq_true rfl⟩ (w3 := (fun _ => wB g D R u ts bs ps hs ns)) (fun _ => (pm_ni _)) (fun _ H locs X => ?_)
      clear hcl
      refine lv_iload hx hb dX5_insert_36 (lv_at hl 6 rfl) ?_
      obtain ⟨q, hcl, hm⟩ := bnd hm
      rcases q with E | ⟨⟩
      · have hm := se_l hm
        cases sm hm
        exact kxSt _ (pm_no _) C htab X (kX5_requireWidth l hl9 g p5 (.inl E) hcl) (cw_X5_insert_X5_requireWidth_99 C) (As := [.int p5]) rfl hl (rest := []) rfl (Nat.le_of_ble_eq_true rfl) dX5_insert_38 ⟨Nat.le_of_ble_eq_true rfl, Nat.le_of_ble_eq_true rfl⟩ (Nat.le_of_ble_eq_true rfl) (Nat.le_of_ble_eq_true rfl) (fun _ => ⟨R, (pm_ni _)⟩)
      have hm := se_r hm
      refine kxS _ (pm_no _) C X (kX5_requireWidth l hl9 g p5 (.inr ()) hcl) (cw_X5_insert_X5_requireWidth_99 C) (As := [.int p5]) rfl hl (rest := []) rfl (Nat.le_of_ble_eq_true rfl) (st2 := []) rfl dX5_insert_38 ⟨Nat.le_of_ble_eq_true rfl, Nat.le_of_ble_eq_true rfl⟩ (w3 := (fun _ => wB g D R u ts bs ps hs ns)) (fun _ => (pm_ni _)) (fun _ H locs X => ?_)
      clear hcl
      refine lv_aload hx hb dX5_insert_41 (lv_at hl 0 rfl) ?_
      obtain ⟨hgk, hm⟩ := gd_t hm
      have hgk := of_decide_eq_true hgk
      obtain ⟨r3, hcl, hm⟩ := bnd hm
      refine kVp _ (bs_out hgk) C X (kX3_size l g (sa (D 1) q1) (Sh_st u q1) r3 hcl) (cw_X5_insert_X3_size_91 C) 0 (ci := 3) rfl rfl (As := []) rfl hl (rest := []) rfl (Nat.le_of_ble_eq_true rfl) (st2 := [.int r3]) rfl dX5_insert_43 ⟨Nat.le_of_ble_eq_true rfl, Nat.le_of_ble_eq_true rfl⟩ (w3 := wB g D R u ts bs ps hs ns) (bs_in0 hgk) (fun H locs X => ?_)
      clear hcl
      refine lv_bipush (v := 24) hx hb dX5_insert_46 (by decide) ?_
      refine lv_icmp_lt (tgt := 61) hx hb dX5_insert_48 (by decide) (fun hc => ?_) (fun hc => ?_)
      · have hm := ifp hc hm
        refine lv_aload_n hx hb dX5_insert_61 rfl (lv_at hl 1 rfl) ?_
        refine kget C X 0 (ci := 5) rfl rfl hinX5 1 (by decide) hf19 (v := .ref (D 5 0)) rfl dX5_insert_62 ?_
        refine lv_aload_n hx hb dX5_insert_65 rfl (lv_at hl 1 rfl) ?_
        refine kget C X 0 (ci := 5) rfl rfl hinX5 0 (by decide) hf10 (v := .ref (D 1 0)) rfl dX5_insert_66 ?_
        obtain ⟨s4, hcl, hm⟩ := bnd hm
        refine kxV _ b41_out C X (kX0_save l g (D 5) (D 1) R.1 hs u s4 hcl) (cw_X5_insert_X0_save_48 C) 0 (ci := 0) rfl rfl (As := [.ref (D 1 0)]) rfl hl (rest := []) rfl (Nat.le_of_ble_eq_true rfl) (st2 := []) rfl dX5_insert_69 ⟨Nat.le_of_ble_eq_true rfl, Nat.le_of_ble_eq_true rfl⟩ (w3 := (fun r5 => wB g D (r5, R.2) u ts bs ps s4 ns)) (fun r5 => b41_in r5 s4 u) (fun r5 H locs X => ?_)
        clear hcl
        refine lv_aload hx hb dX5_insert_72 (lv_at hl 0 rfl) ?_
        refine lv_iload_n hx hb dX5_insert_74 rfl (lv_at hl 3 rfl) ?_
        refine lv_iload_n hx hb dX5_insert_75 rfl (lv_at hl 4 rfl) ?_
        refine lv_iload hx hb dX5_insert_76 (lv_at hl 5 rfl) ?_
        refine lv_iload hx hb dX5_insert_78 (lv_at hl 6 rfl) ?_
        obtain ⟨hgk, hm⟩ := gd_t hm
        have hgk := of_decide_eq_true hgk
        obtain ⟨s6, hcl, hm⟩ := bnd hm
        refine kVp _ (bs_out hgk) C X (kX3_insertPoint l g (sa (D 1) q1) p2 p3 p4 p5 (Sh_st u q1) s6 hcl) (cw_X5_insert_X3_insertPoint_108 C) 0 (ci := 3) rfl rfl (As := [.int p2, .int p3, .int p4, .int p5]) rfl hl (rest := []) rfl (Nat.le_of_ble_eq_true rfl) (st2 := []) rfl dX5_insert_80 ⟨Nat.le_of_ble_eq_true rfl, Nat.le_of_ble_eq_true rfl⟩ (w3 := wB g D (r5, R.2) (Sh_s_st u q1 s6) ts bs ps s4 ns) (bs_in hgk s6) (fun H locs X => ?_)
        clear hcl
        obtain ⟨u7, eu⟩ : ∃ z, z = Sh_s_st u q1 s6 := ⟨_, rfl⟩
        have hm := lt_t eu hm
        rw [← eu] at X
        clear eu
        refine lv_aload hx hb dX5_insert_83 (lv_at hl 0 rfl) ?_
        obtain ⟨hgk, hm⟩ := gd_t hm
        have hgk := of_decide_eq_true hgk
        obtain ⟨r8, hcl, hm⟩ := bnd hm
        refine kVp _ (bs_out hgk) C X (kX3_size l g (sa (D 1) q1) (Sh_st u7 q1) r8 hcl) (cw_X5_insert_X3_size_91 C) 0 (ci := 3) rfl rfl (As := []) rfl hl (rest := []) rfl (Nat.le_of_ble_eq_true rfl) (st2 := [.int r8]) rfl dX5_insert_85 ⟨Nat.le_of_ble_eq_true rfl, Nat.le_of_ble_eq_true rfl⟩ (w3 := wB g D (r5, R.2) u7 ts bs ps s4 ns) (bs_in0 hgk) (fun H locs X => ?_)
        clear hcl
        cases sm hm
        exact kxret (r5, R.2) (Nat.le_of_ble_eq_true rfl) (Nat.le_of_ble_eq_true rfl) (kiret C X dX5_insert_88)
      · have hm := ifn hc hm
        cases sm hm
        exact kxthrow (E := 2) R (names := ["java/lang/RuntimeException", "java/lang/Exception"]) (ik := 103) (is := 105) (ic := 107) (text := "the stroke has no room for a point") C htab X hl9 hl (by decide) (by decide) rfl (by decide) xw_X5_insert_107.1 xw_X5_insert_107.2.1 xw_X5_insert_107.2.2.1 xw_X5_insert_107.2.2.2.1 (by decide) xw_X5_insert_107.2.2.2.2 dX5_insert_51 dX5_insert_54 dX5_insert_55 dX5_insert_57 dX5_insert_60 (Nat.le_of_ble_eq_true rfl) (Nat.le_of_ble_eq_true rfl) (Nat.le_of_ble_eq_true rfl) (Nat.le_of_ble_eq_true rfl) (Nat.le_of_ble_eq_true rfl) (Nat.le_of_ble_eq_true rfl)
    · have hm := ifn hc hm
      cases sm hm
      exact kxthrow (E := 0) R (names := ["java/lang/RuntimeException", "java/lang/Exception"]) (ik := 94) (is := 96) (ic := 98) (text := "no point can get this number") C htab X hl9 hl (by decide) (by decide) rfl (by decide) xw_X5_insert_98.1 xw_X5_insert_98.2.1 xw_X5_insert_98.2.2.1 xw_X5_insert_98.2.2.2.1 (by decide) xw_X5_insert_98.2.2.2.2 dX5_insert_20 dX5_insert_23 dX5_insert_24 dX5_insert_26 dX5_insert_29 (Nat.le_of_ble_eq_true rfl) (Nat.le_of_ble_eq_true rfl) (Nat.le_of_ble_eq_true rfl) (Nat.le_of_ble_eq_true rfl) (Nat.le_of_ble_eq_true rfl) (Nat.le_of_ble_eq_true rfl)
-- X5 BrushStrokes.change(IIIII)I
abbrev rX5_change : Room := { frames := 8, cells := 18, slots := 419, locals := 253 }
theorem fl_X5_change_10 : (Cond.fieldLink RX5 10 "BrushStrokes" "sheet" "LBrushStrokes$Sheet;") ∈ wsX5_change := by decide +kernel
theorem fl_X5_change_19 : (Cond.fieldLink RX5 19 "BrushStrokes" "history" "LBrushStrokes$History;") ∈ wsX5_change := by decide +kernel
theorem in_X5_change_X5 : ∀ w ∈ u_ws RX5 TX5 5, w ∈ wsX5_change := by decide +kernel
theorem cw_X5_change_X5_requirePoint_112 {p : Program} {s : State} {m : MethodId} {args : Array Value} {meth : Method} {c : Code} {g : kG} {A : Nat → Prop} (C : CT g p s m args meth c RX5 cX5_change 8 (some .int) wsX5_change A) : CallB rX5_change s args RX5 112 yX5_requirePoint cX5_requirePoint 2 none wsX5_requirePoint rX5_requirePoint 1 6 2 ∧ (Cond.static yX5_requirePoint).before args s = true := va_cwS 2 C.2.2.2.2.2.1 gX5_change_X5_requirePoint rfl rfl rfl (by decide +kernel) ⟨Nat.le_of_ble_eq_true rfl, Nat.le_of_ble_eq_true rfl⟩
theorem cw_X5_change_X5_requirePlace_41 {p : Program} {s : State} {m : MethodId} {args : Array Value} {meth : Method} {c : Code} {g : kG} {A : Nat → Prop} (C : CT g p s m args meth c RX5 cX5_change 8 (some .int) wsX5_change A) : CallB rX5_change s args RX5 41 yX5_requirePlace cX5_requirePlace 2 none wsX5_requirePlace rX5_requirePlace 2 12 2 ∧ (Cond.static yX5_requirePlace).before args s = true := va_cwS 2 C.2.2.2.2.2.1 gX5_change_X5_requirePlace rfl rfl rfl (by decide +kernel) ⟨Nat.le_of_ble_eq_true rfl, Nat.le_of_ble_eq_true rfl⟩
theorem cw_X5_change_X5_existingStroke_87 {p : Program} {s : State} {m : MethodId} {args : Array Value} {meth : Method} {c : Code} {g : kG} {A : Nat → Prop} (C : CT g p s m args meth c RX5 cX5_change 8 (some .int) wsX5_change A) : CallW rX5_change s args RX5 RX5 87 yX5_existingStroke cX5_existingStroke 2 (some (.object "BrushStrokes$Stroke")) wsX5_existingStroke rX5_existingStroke 1 6 1 := cwV 1 C.2.2.2.2.2.1 gX5_change_X5_existingStroke rfl rfl rfl (by decide +kernel) ⟨Nat.le_of_ble_eq_true rfl, Nat.le_of_ble_eq_true rfl⟩
theorem cw_X5_change_X5_requireWidth_99 {p : Program} {s : State} {m : MethodId} {args : Array Value} {meth : Method} {c : Code} {g : kG} {A : Nat → Prop} (C : CT g p s m args meth c RX5 cX5_change 8 (some .int) wsX5_change A) : CallB rX5_change s args RX5 99 yX5_requireWidth cX5_requireWidth 1 none wsX5_requireWidth rX5_requireWidth 1 6 1 ∧ (Cond.static yX5_requireWidth).before args s = true := va_cwS 1 C.2.2.2.2.2.1 gX5_change_X5_requireWidth rfl rfl rfl (by decide +kernel) ⟨Nat.le_of_ble_eq_true rfl, Nat.le_of_ble_eq_true rfl⟩
theorem cw_X5_change_X0_save_48 {p : Program} {s : State} {m : MethodId} {args : Array Value} {meth : Method} {c : Code} {g : kG} {A : Nat → Prop} (C : CT g p s m args meth c RX5 cX5_change 8 (some .int) wsX5_change A) : CallW rX5_change s args RX5 RX0 48 yX0_save cX0_save 4 none wsX0_save rX0_save 13 389 1 := cwV 1 C.2.2.2.2.2.1 gX5_change_X0_save rfl rfl rfl (by decide +kernel) ⟨Nat.le_of_ble_eq_true rfl, Nat.le_of_ble_eq_true rfl⟩
theorem cw_X5_change_X3_x_116 {p : Program} {s : State} {m : MethodId} {args : Array Value} {meth : Method} {c : Code} {g : kG} {A : Nat → Prop} (C : CT g p s m args meth c RX5 cX5_change 8 (some .int) wsX5_change A) : CallW rX5_change s args RX5 RX3 116 yX3_x cX3_x 3 (some .int) wsX3_x rX3_x 0 0 1 := cwV 1 C.2.2.2.2.2.1 gX5_change_X3_x rfl rfl rfl (by decide +kernel) ⟨Nat.le_of_ble_eq_true rfl, Nat.le_of_ble_eq_true rfl⟩
theorem cw_X5_change_X3_y_120 {p : Program} {s : State} {m : MethodId} {args : Array Value} {meth : Method} {c : Code} {g : kG} {A : Nat → Prop} (C : CT g p s m args meth c RX5 cX5_change 8 (some .int) wsX5_change A) : CallW rX5_change s args RX5 RX3 120 yX3_y cX3_y 3 (some .int) wsX3_y rX3_y 0 0 1 := cwV 1 C.2.2.2.2.2.1 gX5_change_X3_y rfl rfl rfl (by decide +kernel) ⟨Nat.le_of_ble_eq_true rfl, Nat.le_of_ble_eq_true rfl⟩
theorem cw_X5_change_X3_putPoint_123 {p : Program} {s : State} {m : MethodId} {args : Array Value} {meth : Method} {c : Code} {g : kG} {A : Nat → Prop} (C : CT g p s m args meth c RX5 cX5_change 8 (some .int) wsX5_change A) : CallW rX5_change s args RX5 RX3 123 yX3_putPoint cX3_putPoint 6 none wsX3_putPoint rX3_putPoint 0 0 4 := cwV 4 C.2.2.2.2.2.1 gX5_change_X3_putPoint rfl rfl rfl (by decide +kernel) ⟨Nat.le_of_ble_eq_true rfl, Nat.le_of_ble_eq_true rfl⟩
theorem cw_X5_change_X3_keepAll_126 {p : Program} {s : State} {m : MethodId} {args : Array Value} {meth : Method} {c : Code} {g : kG} {A : Nat → Prop} (C : CT g p s m args meth c RX5 cX5_change 8 (some .int) wsX5_change A) : CallW rX5_change s args RX5 RX3 126 yX3_keepAll cX3_keepAll 1 none wsX3_keepAll rX3_keepAll 0 0 0 := cwV 0 C.2.2.2.2.2.1 gX5_change_X3_keepAll rfl rfl rfl (by decide +kernel) ⟨Nat.le_of_ble_eq_true rfl, Nat.le_of_ble_eq_true rfl⟩
noncomputable def fX5_change (p1 : Int32) (p2 : Int32) (p3 : Int32) (p4 : Int32) (p5 : Int32) (u : ShS) (hs : HS) : Option ((Nat × ShS × HS) ⊕ (Int32 × ShS × HS)) := (fX5_existingStroke p1 u).bind fun q => Sum.elim (fun E => some (.inl (E, u, hs))) (fun q1 => gd (decide (q1 < 5)) ((fX5_requirePoint p2 (Sh_st u q1)).bind fun q => Sum.elim (fun E => some (.inl (E, u, hs))) (fun _ => (fX5_requirePlace p3 p4).bind fun q => Sum.elim (fun E => some (.inl (E, u, hs))) (fun _ => (fX5_requireWidth p5).bind fun q => Sum.elim (fun E => some (.inl (E, u, hs))) (fun _ => (fX0_save hs u).bind fun s2 => gd (decide (q1 < 5)) ((fX3_x p2 (Sh_st u q1)).bind fun r4 => gd (decide (q1 < 5)) ((fX3_y p2 (Sh_st u q1)).bind fun r5 => gd (decide (q1 < 5)) ((fX3_putPoint p2 p3 p4 p5 (Sh_st u q1)).bind fun s6 => lt (Sh_s_st u q1 s6) fun u7 => gd (decide (q1 < 5)) ((fX3_keepAll (Sh_st u7 q1)).bind fun s8 => lt (Sh_s_st u7 q1 s8) fun u9 => some (.inr ((100 * r4) + r5, u9, s2))))))) q) q) q)) q
def obX5_change (g : kG) (D : Nat → Nat → Nat) (R : kAd) (u : ShS) (ts : TS) (bs : SS) (ps : PS) (hs : HS) (ns : NS) : (Nat × ShS × HS) ⊕ (Int32 × ShS × HS) → kOut kAd
  | .inl (E, u2, hs2) => .inl (E, fun R => wB g D R u2 ts bs ps hs2 ns)
  | .inr (v, u2, hs2) => .inr ((some (.int v)), fun R => wB g D R u2 ts bs ps hs2 ns)
set_option maxRecDepth 100000 in
set_option maxHeartbeats 4000000 in
theorem kX5_change (l : Launch) (hl9 : l.stackTraces = false) (g : kG) (D : Nat → Nat → Nat) (R : kAd) (p1 : Int32) (p2 : Int32) (p3 : Int32) (p4 : Int32) (p5 : Int32) (u : ShS) (ts : TS) (bs : SS) (ps : PS) (hs : HS) (ns : NS) (o : (Nat × ShS × HS) ⊕ (Int32 × ShS × HS)) (hm : fX5_change p1 p2 p3 p4 p5 u hs = some o) : KX (S := kAd) l yX5_change wsX5_change rX5_change g [.ref (D 0 0), .int p1, .int p2, .int p3, .int p4, .int p5] (wB g D R u ts bs ps hs ns) (obX5_change g D R u ts bs ps hs ns o) 18 419 := by
  refine KX.of (nL := 8) (by decide) rfl (Nat.le_of_ble_eq_true rfl) ?_
  intro p e s m args below meth c A ls C htab X hl
  have C : CT g p s m args meth c RX5 cX5_change 8 (some .int) wsX5_change A := C
  have hx := C.1
  have hb := C.2.1
  have hl : lv_has ls 8 [(0, .ref (D 0 0)), (1, .int p1), (2, .int p2), (3, .int p3), (4, .int p4), (5, .int p5)] := hl
  have hinX5 := in_X5_change_X5
  have hf10 := C.2.2.2.2.2.1 _ fl_X5_change_10
  have hf19 := C.2.2.2.2.2.1 _ fl_X5_change_19
  rw [fX5_change] at hm
  refine lv_aload_n hx hb dX5_change_0 rfl (lv_at hl 0 rfl) ?_
  refine lv_iload_n hx hb dX5_change_1 rfl (lv_at hl 1 rfl) ?_
  obtain ⟨q, hcl, hm⟩ := bnd hm
  rcases q with E | q1
  · have hm := se_l hm
    cases sm hm
    exact kxVt _ (pm_wh _) C htab X (kX5_existingStroke l hl9 g D R p1 u ts bs ps hs ns (.inl E) hcl) (cw_X5_change_X5_existingStroke_87 C) 0 (ci := 5) rfl rfl (As := [.int p1]) rfl hl (rest := []) rfl (Nat.le_of_ble_eq_true rfl) dX5_change_2 ⟨Nat.le_of_ble_eq_true rfl, Nat.le_of_ble_eq_true rfl⟩ (Nat.le_of_ble_eq_true rfl) (Nat.le_of_ble_eq_true rfl) (fun _ => ⟨R, (pm_wi _)⟩)
  have hm := se_r hm
  refine kxV _ (pm_wh _) C X (kX5_existingStroke l hl9 g D R p1 u ts bs ps hs ns (.inr q1) hcl) (cw_X5_change_X5_existingStroke_87 C) 0 (ci := 5) rfl rfl (As := [.int p1]) rfl hl (rest := []) rfl (Nat.le_of_ble_eq_true rfl) (st2 := [.ref (D 1 (3 + 2 * q1))]) rfl dX5_change_2 ⟨Nat.le_of_ble_eq_true rfl, Nat.le_of_ble_eq_true rfl⟩ (w3 := (fun _ => wB g D R u ts bs ps hs ns)) (fun _ => (pm_wi _)) (fun _ H locs X => ?_)
  clear hcl
  refine lv_astore (lv' := [(6, .ref (D 1 (3 + 2 * q1))), (0, .ref (D 0 0)), (1, .int p1), (2, .int p2), (3, .int p3), (4, .int p4), (5, .int p5)]) hx hb dX5_change_5 hl (by decide) rfl (fun ls hl => ?_)
  refine lv_aload hx hb dX5_change_7 (lv_at hl 0 rfl) ?_
  refine lv_iload_n hx hb dX5_change_9 rfl (lv_at hl 3 rfl) ?_
  obtain ⟨hgk, hm⟩ := gd_t hm
  have hgk := of_decide_eq_true hgk
  obtain ⟨q, hcl, hm⟩ := bnd hm
  rcases q with E | ⟨⟩
  · have hm := se_l hm
    cases sm hm
    exact kxSt _ (bs_out hgk) C htab X (kX5_requirePoint l hl9 g (sa (D 1) q1) p2 (Sh_st u q1) (.inl E) hcl) (cw_X5_change_X5_requirePoint_112 C) (As := [.ref (D 1 (3 + 2 * q1)), .int p2]) rfl hl (rest := []) rfl (Nat.le_of_ble_eq_true rfl) dX5_change_10 ⟨Nat.le_of_ble_eq_true rfl, Nat.le_of_ble_eq_true rfl⟩ (Nat.le_of_ble_eq_true rfl) (Nat.le_of_ble_eq_true rfl) (fun _ => ⟨R, (bs_in0 hgk)⟩)
  have hm := se_r hm
  refine kxS _ (bs_out hgk) C X (kX5_requirePoint l hl9 g (sa (D 1) q1) p2 (Sh_st u q1) (.inr ()) hcl) (cw_X5_change_X5_requirePoint_112 C) (As := [.ref (D 1 (3 + 2 * q1)), .int p2]) rfl hl (rest := []) rfl (Nat.le_of_ble_eq_true rfl) (st2 := []) rfl dX5_change_10 ⟨Nat.le_of_ble_eq_true rfl, Nat.le_of_ble_eq_true rfl⟩ (w3 := (fun _ => wB g D R u ts bs ps hs ns)) (fun _ => (bs_in0 hgk)) (fun _ H locs X => ?_)
  clear hcl
  refine lv_iload_n hx hb dX5_change_13 rfl (lv_at hl 4 rfl) ?_
  refine lv_iload hx hb dX5_change_14 (lv_at hl 5 rfl) ?_
  obtain ⟨q, hcl, hm⟩ := bnd hm
  rcases q with E | ⟨⟩
  · have hm := se_l hm
    cases sm hm
    exact kxSt _ (pm_no _) C htab X (kX5_requirePlace l hl9 g p3 p4 (.inl E) hcl) (cw_X5_change_X5_requirePlace_41 C) (As := [.int p3, .int p4]) rfl hl (rest := []) rfl (Nat.le_of_ble_eq_true rfl) dX5_change_16 ⟨Nat.le_of_ble_eq_true rfl, Nat.le_of_ble_eq_true rfl⟩ (Nat.le_of_ble_eq_true rfl) (Nat.le_of_ble_eq_true rfl) (fun _ => ⟨R, (pm_ni _)⟩)
  have hm := se_r hm
  refine kxS _ (pm_no _) C X (kX5_requirePlace l hl9 g p3 p4 (.inr ()) hcl) (cw_X5_change_X5_requirePlace_41 C) (As := [.int p3, .int p4]) rfl hl (rest := []) rfl (Nat.le_of_ble_eq_true rfl) (st2 := []) rfl dX5_change_16 ⟨Nat.le_of_ble_eq_true rfl, Nat.le_of_ble_eq_true rfl⟩ (w3 := (fun _ => wB g D R u ts bs ps hs ns)) (fun _ => (pm_ni _)) (fun _ H locs X => ?_)
  clear hcl
  refine lv_iload hx hb dX5_change_19 (lv_at hl 6 rfl) ?_
  obtain ⟨q, hcl, hm⟩ := bnd hm
  rcases q with E | ⟨⟩
  · have hm := se_l hm
    cases sm hm
    exact kxSt _ (pm_no _) C htab X (kX5_requireWidth l hl9 g p5 (.inl E) hcl) (cw_X5_change_X5_requireWidth_99 C) (As := [.int p5]) rfl hl (rest := []) rfl (Nat.le_of_ble_eq_true rfl) dX5_change_21 ⟨Nat.le_of_ble_eq_true rfl, Nat.le_of_ble_eq_true rfl⟩ (Nat.le_of_ble_eq_true rfl) (Nat.le_of_ble_eq_true rfl) (fun _ => ⟨R, (pm_ni _)⟩)
  have hm := se_r hm
  refine kxS _ (pm_no _) C X (kX5_requireWidth l hl9 g p5 (.inr ()) hcl) (cw_X5_change_X5_requireWidth_99 C) (As := [.int p5]) rfl hl (rest := []) rfl (Nat.le_of_ble_eq_true rfl) (st2 := []) rfl dX5_change_21 ⟨Nat.le_of_ble_eq_true rfl, Nat.le_of_ble_eq_true rfl⟩ (w3 := (fun _ => wB g D R u ts bs ps hs ns)) (fun _ => (pm_ni _)) (fun _ H locs X => ?_)
  clear hcl
  refine lv_aload_n hx hb dX5_change_24 rfl (lv_at hl 1 rfl) ?_
  refine kget C X 0 (ci := 5) rfl rfl hinX5 1 (by decide) hf19 (v := .ref (D 5 0)) rfl dX5_change_25 ?_
  refine lv_aload_n hx hb dX5_change_28 rfl (lv_at hl 1 rfl) ?_
  refine kget C X 0 (ci := 5) rfl rfl hinX5 0 (by decide) hf10 (v := .ref (D 1 0)) rfl dX5_change_29 ?_
  obtain ⟨s2, hcl, hm⟩ := bnd hm
  refine kxV _ b41_out C X (kX0_save l g (D 5) (D 1) R.1 hs u s2 hcl) (cw_X5_change_X0_save_48 C) 0 (ci := 0) rfl rfl (As := [.ref (D 1 0)]) rfl hl (rest := []) rfl (Nat.le_of_ble_eq_true rfl) (st2 := []) rfl dX5_change_32 ⟨Nat.le_of_ble_eq_true rfl, Nat.le_of_ble_eq_true rfl⟩ (w3 := (fun r3 => wB g D (r3, R.2) u ts bs ps s2 ns)) (fun r3 => b41_in r3 s2 u) (fun r3 H locs X => ?_)
  clear hcl
  refine lv_bipush (v := 100) hx hb dX5_change_35 (by decide) ?_
  refine lv_aload hx hb dX5_change_37 (lv_at hl 0 rfl) ?_
  refine lv_iload_n hx hb dX5_change_39 rfl (lv_at hl 3 rfl) ?_
  obtain ⟨hgk, hm⟩ := gd_t hm
  have hgk := of_decide_eq_true hgk
  obtain ⟨r4, hcl, hm⟩ := bnd hm
  refine kVp _ (bs_out hgk) C X (kX3_x l g (sa (D 1) q1) p2 (Sh_st u q1) r4 hcl) (cw_X5_change_X3_x_116 C) 0 (ci := 3) rfl rfl (As := [.int p2]) rfl hl (rest := [.int 100]) rfl (Nat.le_of_ble_eq_true rfl) (st2 := [.int r4, .int 100]) rfl dX5_change_40 ⟨Nat.le_of_ble_eq_true rfl, Nat.le_of_ble_eq_true rfl⟩ (w3 := wB g D (r3, R.2) u ts bs ps s2 ns) (bs_in0 hgk) (fun H locs X => ?_)
  clear hcl
  refine lv_imul hx hb dX5_change_43 ?_
  refine lv_aload hx hb dX5_change_44 (lv_at hl 0 rfl) ?_
  refine lv_iload_n hx hb dX5_change_46 rfl (lv_at hl 3 rfl) ?_
  obtain ⟨hgk, hm⟩ := gd_t hm
  have hgk := of_decide_eq_true hgk
  obtain ⟨r5, hcl, hm⟩ := bnd hm
  refine kVp _ (bs_out hgk) C X (kX3_y l g (sa (D 1) q1) p2 (Sh_st u q1) r5 hcl) (cw_X5_change_X3_y_120 C) 0 (ci := 3) rfl rfl (As := [.int p2]) rfl hl (rest := [.int (100 * r4)]) rfl (Nat.le_of_ble_eq_true rfl) (st2 := [.int r5, .int (100 * r4)]) rfl dX5_change_47 ⟨Nat.le_of_ble_eq_true rfl, Nat.le_of_ble_eq_true rfl⟩ (w3 := wB g D (r3, R.2) u ts bs ps s2 ns) (bs_in0 hgk) (fun H locs X => ?_)
  clear hcl
  refine lv_iadd hx hb dX5_change_50 ?_
  refine lv_istore (lv' := [(7, .int ((100 * r4) + r5)), (6, .ref (D 1 (3 + 2 * q1))), (0, .ref (D 0 0)), (1, .int p1), (2, .int p2), (3, .int p3), (4, .int p4), (5, .int p5)]) hx hb dX5_change_51 hl (by decide) rfl (fun ls hl => ?_)
  refine lv_aload hx hb dX5_change_53 (lv_at hl 1 rfl) ?_
  refine lv_iload_n hx hb dX5_change_55 rfl (lv_at hl 4 rfl) ?_
  refine lv_iload_n hx hb dX5_change_56 rfl (lv_at hl 5 rfl) ?_
  refine lv_iload hx hb dX5_change_57 (lv_at hl 6 rfl) ?_
  refine lv_iload hx hb dX5_change_59 (lv_at hl 7 rfl) ?_
  obtain ⟨hgk, hm⟩ := gd_t hm
  have hgk := of_decide_eq_true hgk
  obtain ⟨s6, hcl, hm⟩ := bnd hm
  refine kVp _ (bs_out hgk) C X (kX3_putPoint l g (sa (D 1) q1) p2 p3 p4 p5 (Sh_st u q1) s6 hcl) (cw_X5_change_X3_putPoint_123 C) 0 (ci := 3) rfl rfl (As := [.int p2, .int p3, .int p4, .int p5]) rfl hl (rest := []) rfl (Nat.le_of_ble_eq_true rfl) (st2 := []) rfl dX5_change_61 ⟨Nat.le_of_ble_eq_true rfl, Nat.le_of_ble_eq_true rfl⟩ (w3 := wB g D (r3, R.2) (Sh_s_st u q1 s6) ts bs ps s2 ns) (bs_in hgk s6) (fun H locs X => ?_)
  clear hcl
  obtain ⟨u7, eu⟩ : ∃ z, z = Sh_s_st u q1 s6 := ⟨_, rfl⟩
  have hm := lt_t eu hm
  rw [← eu] at X
  clear eu
  refine lv_aload hx hb dX5_change_64 (lv_at hl 1 rfl) ?_
  obtain ⟨hgk, hm⟩ := gd_t hm
  have hgk := of_decide_eq_true hgk
  obtain ⟨s8, hcl, hm⟩ := bnd hm
  refine kVp _ (bs_out hgk) C X (kX3_keepAll l g (sa (D 1) q1) (Sh_st u7 q1) s8 hcl) (cw_X5_change_X3_keepAll_126 C) 0 (ci := 3) rfl rfl (As := []) rfl hl (rest := []) rfl (Nat.le_of_ble_eq_true rfl) (st2 := []) rfl dX5_change_66 ⟨Nat.le_of_ble_eq_true rfl, Nat.le_of_ble_eq_true rfl⟩ (w3 := wB g D (r3, R.2) (Sh_s_st u7 q1 s8) ts bs ps s2 ns) (bs_in hgk s8) (fun H locs X => ?_)
  clear hcl
  obtain ⟨u9, eu⟩ : ∃ z, z = Sh_s_st u7 q1 s8 := ⟨_, rfl⟩
  have hm := lt_t eu hm
  rw [← eu] at X
  clear eu
  refine lv_iload hx hb dX5_change_69 (lv_at hl 0 rfl) ?_
  cases sm hm
  exact kxret (r3, R.2) (Nat.le_of_ble_eq_true rfl) (Nat.le_of_ble_eq_true rfl) (kiret C X dX5_change_71)
-- X5 BrushStrokes.remove(II)I
abbrev rX5_remove : Room := { frames := 8, cells := 15, slots := 401, locals := 253 }
theorem fl_X5_remove_10 : (Cond.fieldLink RX5 10 "BrushStrokes" "sheet" "LBrushStrokes$Sheet;") ∈ wsX5_remove := by decide +kernel
theorem fl_X5_remove_19 : (Cond.fieldLink RX5 19 "BrushStrokes" "history" "LBrushStrokes$History;") ∈ wsX5_remove := by decide +kernel
theorem in_X5_remove_X5 : ∀ w ∈ u_ws RX5 TX5 5, w ∈ wsX5_remove := by decide +kernel
theorem xw_X5_remove_107 : (Cond.classLink RX5 103 (kEx 2)) ∈ wsX5_remove ∧ (Cond.initialized (kEx 2)) ∈ wsX5_remove ∧ (∀ w ∈ (vx_atS RX5 107 (kEx 2) ["java/lang/RuntimeException", "java/lang/Exception"]).filter goodWord, w ∈ wsX5_remove) ∧ (∀ w ∈ (vx_atS RX5 107 (kEx 2) ["java/lang/RuntimeException", "java/lang/Exception"]).filter (fun w => !goodWord w), w ∈ Cond.castable (kEx 2) (kEx 2) :: kDecl.map Cond.declares) ∧ ∀ w ∈ Cond.classLink RX5 103 (kEx 2) :: Cond.initialized (kEx 2) :: vx_atS RX5 107 (kEx 2) ["java/lang/RuntimeException", "java/lang/Exception"], vx_ot w = true := by decide +kernel
theorem cw_X5_remove_X3_size_91 {p : Program} {s : State} {m : MethodId} {args : Array Value} {meth : Method} {c : Code} {g : kG} {A : Nat → Prop} (C : CT g p s m args meth c RX5 cX5_remove 4 (some .int) wsX5_remove A) : CallW rX5_remove s args RX5 RX3 91 yX3_size cX3_size 1 (some .int) wsX3_size rX3_size 0 0 0 := cwV 0 C.2.2.2.2.2.1 gX5_remove_X3_size rfl rfl rfl (by decide +kernel) ⟨Nat.le_of_ble_eq_true rfl, Nat.le_of_ble_eq_true rfl⟩
theorem cw_X5_remove_X5_existingStroke_87 {p : Program} {s : State} {m : MethodId} {args : Array Value} {meth : Method} {c : Code} {g : kG} {A : Nat → Prop} (C : CT g p s m args meth c RX5 cX5_remove 4 (some .int) wsX5_remove A) : CallW rX5_remove s args RX5 RX5 87 yX5_existingStroke cX5_existingStroke 2 (some (.object "BrushStrokes$Stroke")) wsX5_existingStroke rX5_existingStroke 1 6 1 := cwV 1 C.2.2.2.2.2.1 gX5_remove_X5_existingStroke rfl rfl rfl (by decide +kernel) ⟨Nat.le_of_ble_eq_true rfl, Nat.le_of_ble_eq_true rfl⟩
theorem cw_X5_remove_X0_save_48 {p : Program} {s : State} {m : MethodId} {args : Array Value} {meth : Method} {c : Code} {g : kG} {A : Nat → Prop} (C : CT g p s m args meth c RX5 cX5_remove 4 (some .int) wsX5_remove A) : CallW rX5_remove s args RX5 RX0 48 yX0_save cX0_save 4 none wsX0_save rX0_save 13 389 1 := cwV 1 C.2.2.2.2.2.1 gX5_remove_X0_save rfl rfl rfl (by decide +kernel) ⟨Nat.le_of_ble_eq_true rfl, Nat.le_of_ble_eq_true rfl⟩
theorem cw_X5_remove_X3_removePoint_131 {p : Program} {s : State} {m : MethodId} {args : Array Value} {meth : Method} {c : Code} {g : kG} {A : Nat → Prop} (C : CT g p s m args meth c RX5 cX5_remove 4 (some .int) wsX5_remove A) : CallW rX5_remove s args RX5 RX3 131 yX3_removePoint cX3_removePoint 3 none wsX3_removePoint rX3_removePoint 0 0 1 := cwV 1 C.2.2.2.2.2.1 gX5_remove_X3_removePoint rfl rfl rfl (by decide +kernel) ⟨Nat.le_of_ble_eq_true rfl, Nat.le_of_ble_eq_true rfl⟩
theorem cw_X5_remove_X5_requirePoint_112 {p : Program} {s : State} {m : MethodId} {args : Array Value} {meth : Method} {c : Code} {g : kG} {A : Nat → Prop} (C : CT g p s m args meth c RX5 cX5_remove 4 (some .int) wsX5_remove A) : CallB rX5_remove s args RX5 112 yX5_requirePoint cX5_requirePoint 2 none wsX5_requirePoint rX5_requirePoint 1 6 2 ∧ (Cond.static yX5_requirePoint).before args s = true := va_cwS 2 C.2.2.2.2.2.1 gX5_remove_X5_requirePoint rfl rfl rfl (by decide +kernel) ⟨Nat.le_of_ble_eq_true rfl, Nat.le_of_ble_eq_true rfl⟩
noncomputable def fX5_remove (p1 : Int32) (p2 : Int32) (u : ShS) (hs : HS) : Option ((Nat × ShS × HS) ⊕ (Int32 × ShS × HS)) := (fX5_existingStroke p1 u).bind fun q => Sum.elim (fun E => some (.inl (E, u, hs))) (fun q1 => gd (decide (q1 < 5)) ((fX5_requirePoint p2 (Sh_st u q1)).bind fun q => Sum.elim (fun E => some (.inl (E, u, hs))) (fun _ => gd (decide (q1 < 5)) ((fX3_size (Sh_st u q1)).bind fun r2 => if 2 < r2 then ((fX0_save hs u).bind fun s3 => gd (decide (q1 < 5)) ((fX3_removePoint p2 (Sh_st u q1)).bind fun s5 => lt (Sh_s_st u q1 s5) fun u6 => gd (decide (q1 < 5)) ((fX3_size (Sh_st u6 q1)).bind fun r7 => some (.inr (r7, u6, s3))))) else (some (.inl (2, u, hs))))) q)) q
def obX5_remove (g : kG) (D : Nat → Nat → Nat) (R : kAd) (u : ShS) (ts : TS) (bs : SS) (ps : PS) (hs : HS) (ns : NS) : (Nat × ShS × HS) ⊕ (Int32 × ShS × HS) → kOut kAd
  | .inl (E, u2, hs2) => .inl (E, fun R => wB g D R u2 ts bs ps hs2 ns)
  | .inr (v, u2, hs2) => .inr ((some (.int v)), fun R => wB g D R u2 ts bs ps hs2 ns)
set_option maxRecDepth 100000 in
set_option maxHeartbeats 4000000 in
theorem kX5_remove (l : Launch) (hl9 : l.stackTraces = false) (g : kG) (D : Nat → Nat → Nat) (R : kAd) (p1 : Int32) (p2 : Int32) (u : ShS) (ts : TS) (bs : SS) (ps : PS) (hs : HS) (ns : NS) (o : (Nat × ShS × HS) ⊕ (Int32 × ShS × HS)) (hm : fX5_remove p1 p2 u hs = some o) : KX (S := kAd) l yX5_remove wsX5_remove rX5_remove g [.ref (D 0 0), .int p1, .int p2] (wB g D R u ts bs ps hs ns) (obX5_remove g D R u ts bs ps hs ns o) 15 401 := by
  refine KX.of (nL := 4) (by decide) rfl (Nat.le_of_ble_eq_true rfl) ?_
  intro p e s m args below meth c A ls C htab X hl
  have C : CT g p s m args meth c RX5 cX5_remove 4 (some .int) wsX5_remove A := C
  have hx := C.1
  have hb := C.2.1
  have hl : lv_has ls 4 [(0, .ref (D 0 0)), (1, .int p1), (2, .int p2)] := hl
  have hinX5 := in_X5_remove_X5
  have hf10 := C.2.2.2.2.2.1 _ fl_X5_remove_10
  have hf19 := C.2.2.2.2.2.1 _ fl_X5_remove_19
  rw [fX5_remove] at hm
  refine lv_aload_n hx hb dX5_remove_0 rfl (lv_at hl 0 rfl) ?_
  refine lv_iload_n hx hb dX5_remove_1 rfl (lv_at hl 1 rfl) ?_
  obtain ⟨q, hcl, hm⟩ := bnd hm
  rcases q with E | q1
  · have hm := se_l hm
    cases sm hm
    exact kxVt _ (pm_wh _) C htab X (kX5_existingStroke l hl9 g D R p1 u ts bs ps hs ns (.inl E) hcl) (cw_X5_remove_X5_existingStroke_87 C) 0 (ci := 5) rfl rfl (As := [.int p1]) rfl hl (rest := []) rfl (Nat.le_of_ble_eq_true rfl) dX5_remove_2 ⟨Nat.le_of_ble_eq_true rfl, Nat.le_of_ble_eq_true rfl⟩ (Nat.le_of_ble_eq_true rfl) (Nat.le_of_ble_eq_true rfl) (fun _ => ⟨R, (pm_wi _)⟩)
  have hm := se_r hm
  refine kxV _ (pm_wh _) C X (kX5_existingStroke l hl9 g D R p1 u ts bs ps hs ns (.inr q1) hcl) (cw_X5_remove_X5_existingStroke_87 C) 0 (ci := 5) rfl rfl (As := [.int p1]) rfl hl (rest := []) rfl (Nat.le_of_ble_eq_true rfl) (st2 := [.ref (D 1 (3 + 2 * q1))]) rfl dX5_remove_2 ⟨Nat.le_of_ble_eq_true rfl, Nat.le_of_ble_eq_true rfl⟩ (w3 := (fun _ => wB g D R u ts bs ps hs ns)) (fun _ => (pm_wi _)) (fun _ H locs X => ?_)
  clear hcl
  refine lv_astore_n (lv' := [(3, .ref (D 1 (3 + 2 * q1))), (0, .ref (D 0 0)), (1, .int p1), (2, .int p2)]) hx hb dX5_remove_5 rfl hl (by decide) rfl (fun ls hl => ?_)
  refine lv_aload_n hx hb dX5_remove_6 rfl (lv_at hl 0 rfl) ?_
  refine lv_iload_n hx hb dX5_remove_7 rfl (lv_at hl 3 rfl) ?_
  obtain ⟨hgk, hm⟩ := gd_t hm
  have hgk := of_decide_eq_true hgk
  obtain ⟨q, hcl, hm⟩ := bnd hm
  rcases q with E | ⟨⟩
  · have hm := se_l hm
    cases sm hm
    exact kxSt _ (bs_out hgk) C htab X (kX5_requirePoint l hl9 g (sa (D 1) q1) p2 (Sh_st u q1) (.inl E) hcl) (cw_X5_remove_X5_requirePoint_112 C) (As := [.ref (D 1 (3 + 2 * q1)), .int p2]) rfl hl (rest := []) rfl (Nat.le_of_ble_eq_true rfl) dX5_remove_8 ⟨Nat.le_of_ble_eq_true rfl, Nat.le_of_ble_eq_true rfl⟩ (Nat.le_of_ble_eq_true rfl) (Nat.le_of_ble_eq_true rfl) (fun _ => ⟨R, (bs_in0 hgk)⟩)
  have hm := se_r hm
  refine kxS _ (bs_out hgk) C X (kX5_requirePoint l hl9 g (sa (D 1) q1) p2 (Sh_st u q1) (.inr ()) hcl) (cw_X5_remove_X5_requirePoint_112 C) (As := [.ref (D 1 (3 + 2 * q1)), .int p2]) rfl hl (rest := []) rfl (Nat.le_of_ble_eq_true rfl) (st2 := []) rfl dX5_remove_8 ⟨Nat.le_of_ble_eq_true rfl, Nat.le_of_ble_eq_true rfl⟩ (w3 := (fun _ => wB g D R u ts bs ps hs ns)) (fun _ => (bs_in0 hgk)) (fun _ H locs X => ?_)
  clear hcl
  refine lv_aload_n hx hb dX5_remove_11 rfl (lv_at hl 0 rfl) ?_
  obtain ⟨hgk, hm⟩ := gd_t hm
  have hgk := of_decide_eq_true hgk
  obtain ⟨r2, hcl, hm⟩ := bnd hm
  refine kVp _ (bs_out hgk) C X (kX3_size l g (sa (D 1) q1) (Sh_st u q1) r2 hcl) (cw_X5_remove_X3_size_91 C) 0 (ci := 3) rfl rfl (As := []) rfl hl (rest := []) rfl (Nat.le_of_ble_eq_true rfl) (st2 := [.int r2]) rfl dX5_remove_12 ⟨Nat.le_of_ble_eq_true rfl, Nat.le_of_ble_eq_true rfl⟩ (w3 := wB g D R u ts bs ps hs ns) (bs_in0 hgk) (fun H locs X => ?_)
  clear hcl
  refine lv_iconst (v := 2) hx hb dX5_remove_15 (by decide) ?_
  refine lv_icmp_gt (tgt := 29) hx hb dX5_remove_16 (by decide) (fun hc => ?_) (fun hc => ?_)
  · have hm := ifp hc hm
    refine lv_aload_n hx hb dX5_remove_29 rfl (lv_at hl 1 rfl) ?_
    refine kget C X 0 (ci := 5) rfl rfl hinX5 1 (by decide) hf19 (v := .ref (D 5 0)) rfl dX5_remove_30 ?_
    refine lv_aload_n hx hb dX5_remove_33 rfl (lv_at hl 1 rfl) ?_
    refine kget C X 0 (ci := 5) rfl rfl hinX5 0 (by decide) hf10 (v := .ref (D 1 0)) rfl dX5_remove_34 ?_
    obtain ⟨s3, hcl, hm⟩ := bnd hm
    refine kxV _ b41_out C X (kX0_save l g (D 5) (D 1) R.1 hs u s3 hcl) (cw_X5_remove_X0_save_48 C) 0 (ci := 0) rfl rfl (As := [.ref (D 1 0)]) rfl hl (rest := []) rfl (Nat.le_of_ble_eq_true rfl) (st2 := []) rfl dX5_remove_37 ⟨Nat.le_of_ble_eq_true rfl, Nat.le_of_ble_eq_true rfl⟩ (w3 := (fun r4 => wB g D (r4, R.2) u ts bs ps s3 ns)) (fun r4 => b41_in r4 s3 u) (fun r4 H locs X => ?_)
    clear hcl
    refine lv_aload_n hx hb dX5_remove_40 rfl (lv_at hl 0 rfl) ?_
    refine lv_iload_n hx hb dX5_remove_41 rfl (lv_at hl 3 rfl) ?_
    obtain ⟨hgk, hm⟩ := gd_t hm
    have hgk := of_decide_eq_true hgk
    obtain ⟨s5, hcl, hm⟩ := bnd hm
    refine kVp _ (bs_out hgk) C X (kX3_removePoint l g (sa (D 1) q1) p2 (Sh_st u q1) s5 hcl) (cw_X5_remove_X3_removePoint_131 C) 0 (ci := 3) rfl rfl (As := [.int p2]) rfl hl (rest := []) rfl (Nat.le_of_ble_eq_true rfl) (st2 := []) rfl dX5_remove_42 ⟨Nat.le_of_ble_eq_true rfl, Nat.le_of_ble_eq_true rfl⟩ (w3 := wB g D (r4, R.2) (Sh_s_st u q1 s5) ts bs ps s3 ns) (bs_in hgk s5) (fun H locs X => ?_)
    clear hcl
    obtain ⟨u6, eu⟩ : ∃ z, z = Sh_s_st u q1 s5 := ⟨_, rfl⟩
    have hm := lt_t eu hm
    rw [← eu] at X
    clear eu
    refine lv_aload_n hx hb dX5_remove_45 rfl (lv_at hl 0 rfl) ?_
    obtain ⟨hgk, hm⟩ := gd_t hm
    have hgk := of_decide_eq_true hgk
    obtain ⟨r7, hcl, hm⟩ := bnd hm
    refine kVp _ (bs_out hgk) C X (kX3_size l g (sa (D 1) q1) (Sh_st u6 q1) r7 hcl) (cw_X5_remove_X3_size_91 C) 0 (ci := 3) rfl rfl (As := []) rfl hl (rest := []) rfl (Nat.le_of_ble_eq_true rfl) (st2 := [.int r7]) rfl dX5_remove_46 ⟨Nat.le_of_ble_eq_true rfl, Nat.le_of_ble_eq_true rfl⟩ (w3 := wB g D (r4, R.2) u6 ts bs ps s3 ns) (bs_in0 hgk) (fun H locs X => ?_)
    clear hcl
    cases sm hm
    exact kxret (r4, R.2) (Nat.le_of_ble_eq_true rfl) (Nat.le_of_ble_eq_true rfl) (kiret C X dX5_remove_49)
  · have hm := ifn hc hm
    cases sm hm
    exact kxthrow (E := 2) R (names := ["java/lang/RuntimeException", "java/lang/Exception"]) (ik := 103) (is := 129) (ic := 107) (text := "the stroke has only two points") C htab X hl9 hl (by decide) (by decide) rfl (by decide) xw_X5_remove_107.1 xw_X5_remove_107.2.1 xw_X5_remove_107.2.2.1 xw_X5_remove_107.2.2.2.1 (by decide) xw_X5_remove_107.2.2.2.2 dX5_remove_19 dX5_remove_22 dX5_remove_23 dX5_remove_25 dX5_remove_28 (Nat.le_of_ble_eq_true rfl) (Nat.le_of_ble_eq_true rfl) (Nat.le_of_ble_eq_true rfl) (Nat.le_of_ble_eq_true rfl) (Nat.le_of_ble_eq_true rfl) (Nat.le_of_ble_eq_true rfl)
-- X5 BrushStrokes.simplify(II)I
abbrev rX5_simplify : Room := { frames := 8, cells := 15, slots := 401, locals := 253 }
theorem fl_X5_simplify_10 : (Cond.fieldLink RX5 10 "BrushStrokes" "sheet" "LBrushStrokes$Sheet;") ∈ wsX5_simplify := by decide +kernel
theorem fl_X5_simplify_19 : (Cond.fieldLink RX5 19 "BrushStrokes" "history" "LBrushStrokes$History;") ∈ wsX5_simplify := by decide +kernel
theorem fl_X5_simplify_37 : (Cond.fieldLink RX5 37 "BrushStrokes" "simplifier" "LBrushStrokes$Simplifier;") ∈ wsX5_simplify := by decide +kernel
theorem in_X5_simplify_X5 : ∀ w ∈ u_ws RX5 TX5 5, w ∈ wsX5_simplify := by decide +kernel
theorem cw_X5_simplify_X0_save_48 {p : Program} {s : State} {m : MethodId} {args : Array Value} {meth : Method} {c : Code} {g : kG} {A : Nat → Prop} (C : CT g p s m args meth c RX5 cX5_simplify 5 (some .int) wsX5_simplify A) : CallW rX5_simplify s args RX5 RX0 48 yX0_save cX0_save 4 none wsX0_save rX0_save 13 389 1 := cwV 1 C.2.2.2.2.2.1 gX5_simplify_X0_save rfl rfl rfl (by decide +kernel) ⟨Nat.le_of_ble_eq_true rfl, Nat.le_of_ble_eq_true rfl⟩
theorem cw_X5_simplify_X5_existingStroke_87 {p : Program} {s : State} {m : MethodId} {args : Array Value} {meth : Method} {c : Code} {g : kG} {A : Nat → Prop} (C : CT g p s m args meth c RX5 cX5_simplify 5 (some .int) wsX5_simplify A) : CallW rX5_simplify s args RX5 RX5 87 yX5_existingStroke cX5_existingStroke 2 (some (.object "BrushStrokes$Stroke")) wsX5_existingStroke rX5_existingStroke 1 6 1 := cwV 1 C.2.2.2.2.2.1 gX5_simplify_X5_existingStroke rfl rfl rfl (by decide +kernel) ⟨Nat.le_of_ble_eq_true rfl, Nat.le_of_ble_eq_true rfl⟩
theorem cw_X5_simplify_X1_fixedPoints_143 {p : Program} {s : State} {m : MethodId} {args : Array Value} {meth : Method} {c : Code} {g : kG} {A : Nat → Prop} (C : CT g p s m args meth c RX5 cX5_simplify 5 (some .int) wsX5_simplify A) : CallW rX5_simplify s args RX5 RX1 143 yX1_fixedPoints cX1_fixedPoints 4 (some .int) wsX1_fixedPoints rX1_fixedPoints 0 0 1 := cwV 1 C.2.2.2.2.2.1 gX5_simplify_X1_fixedPoints rfl rfl rfl (by decide +kernel) ⟨Nat.le_of_ble_eq_true rfl, Nat.le_of_ble_eq_true rfl⟩
theorem cw_X5_simplify_X1_value_147 {p : Program} {s : State} {m : MethodId} {args : Array Value} {meth : Method} {c : Code} {g : kG} {A : Nat → Prop} (C : CT g p s m args meth c RX5 cX5_simplify 5 (some .int) wsX5_simplify A) : CallW rX5_simplify s args RX5 RX1 147 yX1_value cX1_value 2 (some .int) wsX1_value rX1_value 0 0 1 := cwV 1 C.2.2.2.2.2.1 gX5_simplify_X1_value rfl rfl rfl (by decide +kernel) ⟨Nat.le_of_ble_eq_true rfl, Nat.le_of_ble_eq_true rfl⟩
theorem cw_X5_simplify_X2_keptPoints_150 {p : Program} {s : State} {m : MethodId} {args : Array Value} {meth : Method} {c : Code} {g : kG} {A : Nat → Prop} (C : CT g p s m args meth c RX5 cX5_simplify 5 (some .int) wsX5_simplify A) : CallW rX5_simplify s args RX5 RX2 150 yX2_keptPoints cX2_keptPoints 5 (some .int) wsX2_keptPoints rX2_keptPoints 0 0 4 := cwV 4 C.2.2.2.2.2.1 gX5_simplify_X2_keptPoints rfl rfl rfl (by decide +kernel) ⟨Nat.le_of_ble_eq_true rfl, Nat.le_of_ble_eq_true rfl⟩
theorem cw_X5_simplify_X3_keepOnly_154 {p : Program} {s : State} {m : MethodId} {args : Array Value} {meth : Method} {c : Code} {g : kG} {A : Nat → Prop} (C : CT g p s m args meth c RX5 cX5_simplify 5 (some .int) wsX5_simplify A) : CallW rX5_simplify s args RX5 RX3 154 yX3_keepOnly cX3_keepOnly 2 none wsX3_keepOnly rX3_keepOnly 0 0 1 := cwV 1 C.2.2.2.2.2.1 gX5_simplify_X3_keepOnly rfl rfl rfl (by decide +kernel) ⟨Nat.le_of_ble_eq_true rfl, Nat.le_of_ble_eq_true rfl⟩
theorem cw_X5_simplify_X3_size_91 {p : Program} {s : State} {m : MethodId} {args : Array Value} {meth : Method} {c : Code} {g : kG} {A : Nat → Prop} (C : CT g p s m args meth c RX5 cX5_simplify 5 (some .int) wsX5_simplify A) : CallW rX5_simplify s args RX5 RX3 91 yX3_size cX3_size 1 (some .int) wsX3_size rX3_size 0 0 0 := cwV 0 C.2.2.2.2.2.1 gX5_simplify_X3_size rfl rfl rfl (by decide +kernel) ⟨Nat.le_of_ble_eq_true rfl, Nat.le_of_ble_eq_true rfl⟩
theorem cw_X5_simplify_X3_keptCount_157 {p : Program} {s : State} {m : MethodId} {args : Array Value} {meth : Method} {c : Code} {g : kG} {A : Nat → Prop} (C : CT g p s m args meth c RX5 cX5_simplify 5 (some .int) wsX5_simplify A) : CallW rX5_simplify s args RX5 RX3 157 yX3_keptCount cX3_keptCount 1 (some .int) wsX3_keptCount rX3_keptCount 0 0 0 := cwV 0 C.2.2.2.2.2.1 gX5_simplify_X3_keptCount rfl rfl rfl (by decide +kernel) ⟨Nat.le_of_ble_eq_true rfl, Nat.le_of_ble_eq_true rfl⟩
theorem cw_X5_simplify_X1_noteSimplified_160 {p : Program} {s : State} {m : MethodId} {args : Array Value} {meth : Method} {c : Code} {g : kG} {A : Nat → Prop} (C : CT g p s m args meth c RX5 cX5_simplify 5 (some .int) wsX5_simplify A) : CallW rX5_simplify s args RX5 RX1 160 yX1_noteSimplified cX1_noteSimplified 2 none wsX1_noteSimplified rX1_noteSimplified 0 0 1 := cwV 1 C.2.2.2.2.2.1 gX5_simplify_X1_noteSimplified rfl rfl rfl (by decide +kernel) ⟨Nat.le_of_ble_eq_true rfl, Nat.le_of_ble_eq_true rfl⟩
theorem cw_X5_simplify_X5_requireWay_140 {p : Program} {s : State} {m : MethodId} {args : Array Value} {meth : Method} {c : Code} {g : kG} {A : Nat → Prop} (C : CT g p s m args meth c RX5 cX5_simplify 5 (some .int) wsX5_simplify A) : CallB rX5_simplify s args RX5 140 yX5_requireWay cX5_requireWay 1 none wsX5_requireWay rX5_requireWay 1 6 1 ∧ (Cond.static yX5_requireWay).before args s = true := va_cwS 1 C.2.2.2.2.2.1 gX5_simplify_X5_requireWay rfl rfl rfl (by decide +kernel) ⟨Nat.le_of_ble_eq_true rfl, Nat.le_of_ble_eq_true rfl⟩
noncomputable def fX5_simplify (p1 : Int32) (p2 : Int32) (u : ShS) (ps : PS) (hs : HS) : Option ((Nat × ShS × PS × HS) ⊕ (Int32 × ShS × PS × HS)) := (fX5_existingStroke p1 u).bind fun q => Sum.elim (fun E => some (.inl (E, u, ps, hs))) (fun q1 => (fX5_requireWay p2).bind fun q => Sum.elim (fun E => some (.inl (E, u, ps, hs))) (fun _ => (fX0_save hs u).bind fun s2 => (fX1_fixedPoints q1 u).bind fun r4 => (fX1_value 0 u).bind fun r5 => gd (decide (q1 < 5)) ((fX2_keptPoints r4 r5 p2 ps (Sh_st u q1)).bind fun (r6, s7) => gd (decide (q1 < 5)) ((fX3_keepOnly r6 (Sh_st u q1)).bind fun s8 => lt (Sh_s_st u q1 s8) fun u9 => gd (decide (q1 < 5)) ((fX3_size (Sh_st u9 q1)).bind fun r10 => gd (decide (q1 < 5)) ((fX3_keptCount (Sh_st u9 q1)).bind fun r11 => (fX1_noteSimplified (r10 - r11) u9).bind fun s12 => gd (decide (q1 < 5)) ((fX3_keptCount (Sh_st s12 q1)).bind fun r13 => some (.inr (r13, s12, s7, s2)))))))) q) q
def obX5_simplify (g : kG) (D : Nat → Nat → Nat) (R : kAd) (u : ShS) (ts : TS) (bs : SS) (ps : PS) (hs : HS) (ns : NS) : (Nat × ShS × PS × HS) ⊕ (Int32 × ShS × PS × HS) → kOut kAd
  | .inl (E, u2, ps2, hs2) => .inl (E, fun R => wB g D R u2 ts bs ps2 hs2 ns)
  | .inr (v, u2, ps2, hs2) => .inr ((some (.int v)), fun R => wB g D R u2 ts bs ps2 hs2 ns)
set_option maxRecDepth 100000 in
set_option maxHeartbeats 4000000 in
theorem kX5_simplify (l : Launch) (hl9 : l.stackTraces = false) (g : kG) (D : Nat → Nat → Nat) (R : kAd) (p1 : Int32) (p2 : Int32) (u : ShS) (ts : TS) (bs : SS) (ps : PS) (hs : HS) (ns : NS) (o : (Nat × ShS × PS × HS) ⊕ (Int32 × ShS × PS × HS)) (hm : fX5_simplify p1 p2 u ps hs = some o) : KX (S := kAd) l yX5_simplify wsX5_simplify rX5_simplify g [.ref (D 0 0), .int p1, .int p2] (wB g D R u ts bs ps hs ns) (obX5_simplify g D R u ts bs ps hs ns o) 15 401 := by
  refine KX.of (nL := 5) (by decide) rfl (Nat.le_of_ble_eq_true rfl) ?_
  intro p e s m args below meth c A ls C htab X hl
  have C : CT g p s m args meth c RX5 cX5_simplify 5 (some .int) wsX5_simplify A := C
  have hx := C.1
  have hb := C.2.1
  have hl : lv_has ls 5 [(0, .ref (D 0 0)), (1, .int p1), (2, .int p2)] := hl
  have hinX5 := in_X5_simplify_X5
  have hf10 := C.2.2.2.2.2.1 _ fl_X5_simplify_10
  have hf19 := C.2.2.2.2.2.1 _ fl_X5_simplify_19
  have hf37 := C.2.2.2.2.2.1 _ fl_X5_simplify_37
  rw [fX5_simplify] at hm
  refine lv_aload_n hx hb dX5_simplify_0 rfl (lv_at hl 0 rfl) ?_
  refine lv_iload_n hx hb dX5_simplify_1 rfl (lv_at hl 1 rfl) ?_
  obtain ⟨q, hcl, hm⟩ := bnd hm
  rcases q with E | q1
  · have hm := se_l hm
    cases sm hm
    exact kxVt _ (pm_wh _) C htab X (kX5_existingStroke l hl9 g D R p1 u ts bs ps hs ns (.inl E) hcl) (cw_X5_simplify_X5_existingStroke_87 C) 0 (ci := 5) rfl rfl (As := [.int p1]) rfl hl (rest := []) rfl (Nat.le_of_ble_eq_true rfl) dX5_simplify_2 ⟨Nat.le_of_ble_eq_true rfl, Nat.le_of_ble_eq_true rfl⟩ (Nat.le_of_ble_eq_true rfl) (Nat.le_of_ble_eq_true rfl) (fun _ => ⟨R, (pm_wi _)⟩)
  have hm := se_r hm
  refine kxV _ (pm_wh _) C X (kX5_existingStroke l hl9 g D R p1 u ts bs ps hs ns (.inr q1) hcl) (cw_X5_simplify_X5_existingStroke_87 C) 0 (ci := 5) rfl rfl (As := [.int p1]) rfl hl (rest := []) rfl (Nat.le_of_ble_eq_true rfl) (st2 := [.ref (D 1 (3 + 2 * q1))]) rfl dX5_simplify_2 ⟨Nat.le_of_ble_eq_true rfl, Nat.le_of_ble_eq_true rfl⟩ (w3 := (fun _ => wB g D R u ts bs ps hs ns)) (fun _ => (pm_wi _)) (fun _ H locs X => ?_)
  clear hcl
  refine lv_astore_n (lv' := [(3, .ref (D 1 (3 + 2 * q1))), (0, .ref (D 0 0)), (1, .int p1), (2, .int p2)]) hx hb dX5_simplify_5 rfl hl (by decide) rfl (fun ls hl => ?_)
  refine lv_iload_n hx hb dX5_simplify_6 rfl (lv_at hl 3 rfl) ?_
  obtain ⟨q, hcl, hm⟩ := bnd hm
  rcases q with E | ⟨⟩
  · have hm := se_l hm
    cases sm hm
    exact kxSt _ (pm_no _) C htab X (kX5_requireWay l hl9 g p2 (.inl E) hcl) (cw_X5_simplify_X5_requireWay_140 C) (As := [.int p2]) rfl hl (rest := []) rfl (Nat.le_of_ble_eq_true rfl) dX5_simplify_7 ⟨Nat.le_of_ble_eq_true rfl, Nat.le_of_ble_eq_true rfl⟩ (Nat.le_of_ble_eq_true rfl) (Nat.le_of_ble_eq_true rfl) (fun _ => ⟨R, (pm_ni _)⟩)
  have hm := se_r hm
  refine kxS _ (pm_no _) C X (kX5_requireWay l hl9 g p2 (.inr ()) hcl) (cw_X5_simplify_X5_requireWay_140 C) (As := [.int p2]) rfl hl (rest := []) rfl (Nat.le_of_ble_eq_true rfl) (st2 := []) rfl dX5_simplify_7 ⟨Nat.le_of_ble_eq_true rfl, Nat.le_of_ble_eq_true rfl⟩ (w3 := (fun _ => wB g D R u ts bs ps hs ns)) (fun _ => (pm_ni _)) (fun _ H locs X => ?_)
  clear hcl
  refine lv_aload_n hx hb dX5_simplify_10 rfl (lv_at hl 1 rfl) ?_
  refine kget C X 0 (ci := 5) rfl rfl hinX5 1 (by decide) hf19 (v := .ref (D 5 0)) rfl dX5_simplify_11 ?_
  refine lv_aload_n hx hb dX5_simplify_14 rfl (lv_at hl 1 rfl) ?_
  refine kget C X 0 (ci := 5) rfl rfl hinX5 0 (by decide) hf10 (v := .ref (D 1 0)) rfl dX5_simplify_15 ?_
  obtain ⟨s2, hcl, hm⟩ := bnd hm
  refine kxV _ b41_out C X (kX0_save l g (D 5) (D 1) R.1 hs u s2 hcl) (cw_X5_simplify_X0_save_48 C) 0 (ci := 0) rfl rfl (As := [.ref (D 1 0)]) rfl hl (rest := []) rfl (Nat.le_of_ble_eq_true rfl) (st2 := []) rfl dX5_simplify_18 ⟨Nat.le_of_ble_eq_true rfl, Nat.le_of_ble_eq_true rfl⟩ (w3 := (fun r3 => wB g D (r3, R.2) u ts bs ps s2 ns)) (fun r3 => b41_in r3 s2 u) (fun r3 H locs X => ?_)
  clear hcl
  refine lv_aload_n hx hb dX5_simplify_21 rfl (lv_at hl 1 rfl) ?_
  refine kget C X 0 (ci := 5) rfl rfl hinX5 4 (by decide) hf37 (v := .ref (D 4 0)) rfl dX5_simplify_22 ?_
  refine lv_aload_n hx hb dX5_simplify_25 rfl (lv_at hl 0 rfl) ?_
  refine lv_aload_n hx hb dX5_simplify_26 rfl (lv_at hl 1 rfl) ?_
  refine kget C X 0 (ci := 5) rfl rfl hinX5 0 (by decide) hf10 (v := .ref (D 1 0)) rfl dX5_simplify_27 ?_
  refine lv_aload_n hx hb dX5_simplify_30 rfl (lv_at hl 0 rfl) ?_
  obtain ⟨r4, hcl, hm⟩ := bnd hm
  refine kVp _ b1_out C X (kX1_fixedPoints l g (D 1) q1 u r4 hcl) (cw_X5_simplify_X1_fixedPoints_143 C) 0 (ci := 1) rfl rfl (As := [.ref (D 1 (3 + 2 * q1))]) rfl hl (rest := [.ref (D 1 (3 + 2 * q1)), .ref (D 4 0)]) rfl (Nat.le_of_ble_eq_true rfl) (st2 := [.int r4, .ref (D 1 (3 + 2 * q1)), .ref (D 4 0)]) rfl dX5_simplify_31 ⟨Nat.le_of_ble_eq_true rfl, Nat.le_of_ble_eq_true rfl⟩ (w3 := wB g D (r3, R.2) u ts bs ps s2 ns) (b1_in u) (fun H locs X => ?_)
  clear hcl
  refine lv_aload_n hx hb dX5_simplify_34 rfl (lv_at hl 1 rfl) ?_
  refine kget C X 0 (ci := 5) rfl rfl hinX5 0 (by decide) hf10 (v := .ref (D 1 0)) rfl dX5_simplify_35 ?_
  refine lv_iconst (v := 0) hx hb dX5_simplify_38 (by decide) ?_
  obtain ⟨r5, hcl, hm⟩ := bnd hm
  refine kVp _ b1_out C X (kX1_value l g (D 1) 0 u r5 hcl) (cw_X5_simplify_X1_value_147 C) 0 (ci := 1) rfl rfl (As := [.int 0]) rfl hl (rest := [.int r4, .ref (D 1 (3 + 2 * q1)), .ref (D 4 0)]) rfl (Nat.le_of_ble_eq_true rfl) (st2 := [.int r5, .int r4, .ref (D 1 (3 + 2 * q1)), .ref (D 4 0)]) rfl dX5_simplify_39 ⟨Nat.le_of_ble_eq_true rfl, Nat.le_of_ble_eq_true rfl⟩ (w3 := wB g D (r3, R.2) u ts bs ps s2 ns) (b1_in u) (fun H locs X => ?_)
  clear hcl
  refine lv_iload_n hx hb dX5_simplify_42 rfl (lv_at hl 3 rfl) ?_
  obtain ⟨hgk, hm⟩ := gd_t hm
  have hgk := of_decide_eq_true hgk
  obtain ⟨⟨r6, s7⟩, hcl, hm⟩ := bnd hm
  refine kVp _ (bp_out hgk) C X (kX2_keptPoints l g (D 4) (sa (D 1) q1) r4 r5 p2 ps (Sh_st u q1) r6 s7 hcl) (cw_X5_simplify_X2_keptPoints_150 C) 0 (ci := 2) rfl rfl (As := [.ref (D 1 (3 + 2 * q1)), .int r4, .int r5, .int p2]) rfl hl (rest := []) rfl (Nat.le_of_ble_eq_true rfl) (st2 := [.int r6]) rfl dX5_simplify_43 ⟨Nat.le_of_ble_eq_true rfl, Nat.le_of_ble_eq_true rfl⟩ (w3 := wB g D (r3, R.2) u ts bs s7 s2 ns) (bp_in0 hgk s7) (fun H locs X => ?_)
  clear hcl
  refine lv_istore (lv' := [(4, .int r6), (3, .ref (D 1 (3 + 2 * q1))), (0, .ref (D 0 0)), (1, .int p1), (2, .int p2)]) hx hb dX5_simplify_46 hl (by decide) rfl (fun ls hl => ?_)
  refine lv_aload_n hx hb dX5_simplify_48 rfl (lv_at hl 1 rfl) ?_
  refine lv_iload hx hb dX5_simplify_49 (lv_at hl 0 rfl) ?_
  obtain ⟨hgk, hm⟩ := gd_t hm
  have hgk := of_decide_eq_true hgk
  obtain ⟨s8, hcl, hm⟩ := bnd hm
  refine kVp _ (bs_out hgk) C X (kX3_keepOnly l g (sa (D 1) q1) r6 (Sh_st u q1) s8 hcl) (cw_X5_simplify_X3_keepOnly_154 C) 0 (ci := 3) rfl rfl (As := [.int r6]) rfl hl (rest := []) rfl (Nat.le_of_ble_eq_true rfl) (st2 := []) rfl dX5_simplify_51 ⟨Nat.le_of_ble_eq_true rfl, Nat.le_of_ble_eq_true rfl⟩ (w3 := wB g D (r3, R.2) (Sh_s_st u q1 s8) ts bs s7 s2 ns) (bs_in hgk s8) (fun H locs X => ?_)
  clear hcl
  obtain ⟨u9, eu⟩ : ∃ z, z = Sh_s_st u q1 s8 := ⟨_, rfl⟩
  have hm := lt_t eu hm
  rw [← eu] at X
  clear eu
  refine lv_aload_n hx hb dX5_simplify_54 rfl (lv_at hl 2 rfl) ?_
  refine kget C X 0 (ci := 5) rfl rfl hinX5 0 (by decide) hf10 (v := .ref (D 1 0)) rfl dX5_simplify_55 ?_
  refine lv_aload_n hx hb dX5_simplify_58 rfl (lv_at hl 1 rfl) ?_
  obtain ⟨hgk, hm⟩ := gd_t hm
  have hgk := of_decide_eq_true hgk
  obtain ⟨r10, hcl, hm⟩ := bnd hm
  refine kVp _ (bs_out hgk) C X (kX3_size l g (sa (D 1) q1) (Sh_st u9 q1) r10 hcl) (cw_X5_simplify_X3_size_91 C) 0 (ci := 3) rfl rfl (As := []) rfl hl (rest := [.ref (D 1 0)]) rfl (Nat.le_of_ble_eq_true rfl) (st2 := [.int r10, .ref (D 1 0)]) rfl dX5_simplify_59 ⟨Nat.le_of_ble_eq_true rfl, Nat.le_of_ble_eq_true rfl⟩ (w3 := wB g D (r3, R.2) u9 ts bs s7 s2 ns) (bs_in0 hgk) (fun H locs X => ?_)
  clear hcl
  refine lv_aload_n hx hb dX5_simplify_62 rfl (lv_at hl 1 rfl) ?_
  obtain ⟨hgk, hm⟩ := gd_t hm
  have hgk := of_decide_eq_true hgk
  obtain ⟨r11, hcl, hm⟩ := bnd hm
  refine kVp _ (bs_out hgk) C X (kX3_keptCount l g (sa (D 1) q1) (Sh_st u9 q1) r11 hcl) (cw_X5_simplify_X3_keptCount_157 C) 0 (ci := 3) rfl rfl (As := []) rfl hl (rest := [.int r10, .ref (D 1 0)]) rfl (Nat.le_of_ble_eq_true rfl) (st2 := [.int r11, .int r10, .ref (D 1 0)]) rfl dX5_simplify_63 ⟨Nat.le_of_ble_eq_true rfl, Nat.le_of_ble_eq_true rfl⟩ (w3 := wB g D (r3, R.2) u9 ts bs s7 s2 ns) (bs_in0 hgk) (fun H locs X => ?_)
  clear hcl
  refine lv_isub hx hb dX5_simplify_66 ?_
  obtain ⟨s12, hcl, hm⟩ := bnd hm
  refine kVp _ b1_out C X (kX1_noteSimplified l g (D 1) (r10 - r11) u9 s12 hcl) (cw_X5_simplify_X1_noteSimplified_160 C) 0 (ci := 1) rfl rfl (As := [.int (r10 - r11)]) rfl hl (rest := []) rfl (Nat.le_of_ble_eq_true rfl) (st2 := []) rfl dX5_simplify_67 ⟨Nat.le_of_ble_eq_true rfl, Nat.le_of_ble_eq_true rfl⟩ (w3 := wB g D (r3, R.2) s12 ts bs s7 s2 ns) (b1_in s12) (fun H locs X => ?_)
  clear hcl
  refine lv_aload_n hx hb dX5_simplify_70 rfl (lv_at hl 1 rfl) ?_
  obtain ⟨hgk, hm⟩ := gd_t hm
  have hgk := of_decide_eq_true hgk
  obtain ⟨r13, hcl, hm⟩ := bnd hm
  refine kVp _ (bs_out hgk) C X (kX3_keptCount l g (sa (D 1) q1) (Sh_st s12 q1) r13 hcl) (cw_X5_simplify_X3_keptCount_157 C) 0 (ci := 3) rfl rfl (As := []) rfl hl (rest := []) rfl (Nat.le_of_ble_eq_true rfl) (st2 := [.int r13]) rfl dX5_simplify_71 ⟨Nat.le_of_ble_eq_true rfl, Nat.le_of_ble_eq_true rfl⟩ (w3 := wB g D (r3, R.2) s12 ts bs s7 s2 ns) (bs_in0 hgk) (fun H locs X => ?_)
  clear hcl
  cases sm hm
  exact kxret (r3, R.2) (Nat.le_of_ble_eq_true rfl) (Nat.le_of_ble_eq_true rfl) (kiret C X dX5_simplify_74)
-- X5 BrushStrokes.bake(I)I
abbrev rX5_bake : Room := { frames := 8, cells := 14, slots := 395, locals := 253 }
theorem fl_X5_bake_10 : (Cond.fieldLink RX5 10 "BrushStrokes" "sheet" "LBrushStrokes$Sheet;") ∈ wsX5_bake := by decide +kernel
theorem fl_X5_bake_19 : (Cond.fieldLink RX5 19 "BrushStrokes" "history" "LBrushStrokes$History;") ∈ wsX5_bake := by decide +kernel
theorem in_X5_bake_X5 : ∀ w ∈ u_ws RX5 TX5 5, w ∈ wsX5_bake := by decide +kernel
theorem cw_X5_bake_X0_save_48 {p : Program} {s : State} {m : MethodId} {args : Array Value} {meth : Method} {c : Code} {g : kG} {A : Nat → Prop} (C : CT g p s m args meth c RX5 cX5_bake 4 (some .int) wsX5_bake A) : CallW rX5_bake s args RX5 RX0 48 yX0_save cX0_save 4 none wsX0_save rX0_save 13 389 1 := cwV 1 C.2.2.2.2.2.1 gX5_bake_X0_save rfl rfl rfl (by decide +kernel) ⟨Nat.le_of_ble_eq_true rfl, Nat.le_of_ble_eq_true rfl⟩
theorem cw_X5_bake_X3_size_91 {p : Program} {s : State} {m : MethodId} {args : Array Value} {meth : Method} {c : Code} {g : kG} {A : Nat → Prop} (C : CT g p s m args meth c RX5 cX5_bake 4 (some .int) wsX5_bake A) : CallW rX5_bake s args RX5 RX3 91 yX3_size cX3_size 1 (some .int) wsX3_size rX3_size 0 0 0 := cwV 0 C.2.2.2.2.2.1 gX5_bake_X3_size rfl rfl rfl (by decide +kernel) ⟨Nat.le_of_ble_eq_true rfl, Nat.le_of_ble_eq_true rfl⟩
theorem cw_X5_bake_X5_existingStroke_87 {p : Program} {s : State} {m : MethodId} {args : Array Value} {meth : Method} {c : Code} {g : kG} {A : Nat → Prop} (C : CT g p s m args meth c RX5 cX5_bake 4 (some .int) wsX5_bake A) : CallW rX5_bake s args RX5 RX5 87 yX5_existingStroke cX5_existingStroke 2 (some (.object "BrushStrokes$Stroke")) wsX5_existingStroke rX5_existingStroke 1 6 1 := cwV 1 C.2.2.2.2.2.1 gX5_bake_X5_existingStroke rfl rfl rfl (by decide +kernel) ⟨Nat.le_of_ble_eq_true rfl, Nat.le_of_ble_eq_true rfl⟩
theorem cw_X5_bake_X3_removeUnkept_163 {p : Program} {s : State} {m : MethodId} {args : Array Value} {meth : Method} {c : Code} {g : kG} {A : Nat → Prop} (C : CT g p s m args meth c RX5 cX5_bake 4 (some .int) wsX5_bake A) : CallW rX5_bake s args RX5 RX3 163 yX3_removeUnkept cX3_removeUnkept 3 none wsX3_removeUnkept rX3_removeUnkept 0 0 0 := cwV 0 C.2.2.2.2.2.1 gX5_bake_X3_removeUnkept rfl rfl rfl (by decide +kernel) ⟨Nat.le_of_ble_eq_true rfl, Nat.le_of_ble_eq_true rfl⟩
noncomputable def fX5_bake (p1 : Int32) (u : ShS) (hs : HS) : Option ((Nat × ShS × HS) ⊕ (Int32 × ShS × HS)) := (fX5_existingStroke p1 u).bind fun q => Sum.elim (fun E => some (.inl (E, u, hs))) (fun q1 => (fX0_save hs u).bind fun s2 => gd (decide (q1 < 5)) ((fX3_size (Sh_st u q1)).bind fun r4 => gd (decide (q1 < 5)) ((fX3_removeUnkept (Sh_st u q1)).bind fun s5 => lt (Sh_s_st u q1 s5) fun u6 => gd (decide (q1 < 5)) ((fX3_size (Sh_st u6 q1)).bind fun r7 => some (.inr (r4 - r7, u6, s2)))))) q
def obX5_bake (g : kG) (D : Nat → Nat → Nat) (R : kAd) (u : ShS) (ts : TS) (bs : SS) (ps : PS) (hs : HS) (ns : NS) : (Nat × ShS × HS) ⊕ (Int32 × ShS × HS) → kOut kAd
  | .inl (E, u2, hs2) => .inl (E, fun R => wB g D R u2 ts bs ps hs2 ns)
  | .inr (v, u2, hs2) => .inr ((some (.int v)), fun R => wB g D R u2 ts bs ps hs2 ns)
set_option maxRecDepth 100000 in
set_option maxHeartbeats 4000000 in
theorem kX5_bake (l : Launch) (hl9 : l.stackTraces = false) (g : kG) (D : Nat → Nat → Nat) (R : kAd) (p1 : Int32) (u : ShS) (ts : TS) (bs : SS) (ps : PS) (hs : HS) (ns : NS) (o : (Nat × ShS × HS) ⊕ (Int32 × ShS × HS)) (hm : fX5_bake p1 u hs = some o) : KX (S := kAd) l yX5_bake wsX5_bake rX5_bake g [.ref (D 0 0), .int p1] (wB g D R u ts bs ps hs ns) (obX5_bake g D R u ts bs ps hs ns o) 14 395 := by
  refine KX.of (nL := 4) (by decide) rfl (Nat.le_of_ble_eq_true rfl) ?_
  intro p e s m args below meth c A ls C htab X hl
  have C : CT g p s m args meth c RX5 cX5_bake 4 (some .int) wsX5_bake A := C
  have hx := C.1
  have hb := C.2.1
  have hl : lv_has ls 4 [(0, .ref (D 0 0)), (1, .int p1)] := hl
  have hinX5 := in_X5_bake_X5
  have hf10 := C.2.2.2.2.2.1 _ fl_X5_bake_10
  have hf19 := C.2.2.2.2.2.1 _ fl_X5_bake_19
  rw [fX5_bake] at hm
  refine lv_aload_n hx hb dX5_bake_0 rfl (lv_at hl 0 rfl) ?_
  refine lv_iload_n hx hb dX5_bake_1 rfl (lv_at hl 1 rfl) ?_
  obtain ⟨q, hcl, hm⟩ := bnd hm
  rcases q with E | q1
  · have hm := se_l hm
    cases sm hm
    exact kxVt _ (pm_wh _) C htab X (kX5_existingStroke l hl9 g D R p1 u ts bs ps hs ns (.inl E) hcl) (cw_X5_bake_X5_existingStroke_87 C) 0 (ci := 5) rfl rfl (As := [.int p1]) rfl hl (rest := []) rfl (Nat.le_of_ble_eq_true rfl) dX5_bake_2 ⟨Nat.le_of_ble_eq_true rfl, Nat.le_of_ble_eq_true rfl⟩ (Nat.le_of_ble_eq_true rfl) (Nat.le_of_ble_eq_true rfl) (fun _ => ⟨R, (pm_wi _)⟩)
  have hm := se_r hm
  refine kxV _ (pm_wh _) C X (kX5_existingStroke l hl9 g D R p1 u ts bs ps hs ns (.inr q1) hcl) (cw_X5_bake_X5_existingStroke_87 C) 0 (ci := 5) rfl rfl (As := [.int p1]) rfl hl (rest := []) rfl (Nat.le_of_ble_eq_true rfl) (st2 := [.ref (D 1 (3 + 2 * q1))]) rfl dX5_bake_2 ⟨Nat.le_of_ble_eq_true rfl, Nat.le_of_ble_eq_true rfl⟩ (w3 := (fun _ => wB g D R u ts bs ps hs ns)) (fun _ => (pm_wi _)) (fun _ H locs X => ?_)
  clear hcl
  refine lv_astore_n (lv' := [(2, .ref (D 1 (3 + 2 * q1))), (0, .ref (D 0 0)), (1, .int p1)]) hx hb dX5_bake_5 rfl hl (by decide) rfl (fun ls hl => ?_)
  refine lv_aload_n hx hb dX5_bake_6 rfl (lv_at hl 1 rfl) ?_
  refine kget C X 0 (ci := 5) rfl rfl hinX5 1 (by decide) hf19 (v := .ref (D 5 0)) rfl dX5_bake_7 ?_
  refine lv_aload_n hx hb dX5_bake_10 rfl (lv_at hl 1 rfl) ?_
  refine kget C X 0 (ci := 5) rfl rfl hinX5 0 (by decide) hf10 (v := .ref (D 1 0)) rfl dX5_bake_11 ?_
  obtain ⟨s2, hcl, hm⟩ := bnd hm
  refine kxV _ b41_out C X (kX0_save l g (D 5) (D 1) R.1 hs u s2 hcl) (cw_X5_bake_X0_save_48 C) 0 (ci := 0) rfl rfl (As := [.ref (D 1 0)]) rfl hl (rest := []) rfl (Nat.le_of_ble_eq_true rfl) (st2 := []) rfl dX5_bake_14 ⟨Nat.le_of_ble_eq_true rfl, Nat.le_of_ble_eq_true rfl⟩ (w3 := (fun r3 => wB g D (r3, R.2) u ts bs ps s2 ns)) (fun r3 => b41_in r3 s2 u) (fun r3 H locs X => ?_)
  clear hcl
  refine lv_aload_n hx hb dX5_bake_17 rfl (lv_at hl 0 rfl) ?_
  obtain ⟨hgk, hm⟩ := gd_t hm
  have hgk := of_decide_eq_true hgk
  obtain ⟨r4, hcl, hm⟩ := bnd hm
  refine kVp _ (bs_out hgk) C X (kX3_size l g (sa (D 1) q1) (Sh_st u q1) r4 hcl) (cw_X5_bake_X3_size_91 C) 0 (ci := 3) rfl rfl (As := []) rfl hl (rest := []) rfl (Nat.le_of_ble_eq_true rfl) (st2 := [.int r4]) rfl dX5_bake_18 ⟨Nat.le_of_ble_eq_true rfl, Nat.le_of_ble_eq_true rfl⟩ (w3 := wB g D (r3, R.2) u ts bs ps s2 ns) (bs_in0 hgk) (fun H locs X => ?_)
  clear hcl
  refine lv_istore_n (lv' := [(3, .int r4), (2, .ref (D 1 (3 + 2 * q1))), (0, .ref (D 0 0)), (1, .int p1)]) hx hb dX5_bake_21 rfl hl (by decide) rfl (fun ls hl => ?_)
  refine lv_aload_n hx hb dX5_bake_22 rfl (lv_at hl 1 rfl) ?_
  obtain ⟨hgk, hm⟩ := gd_t hm
  have hgk := of_decide_eq_true hgk
  obtain ⟨s5, hcl, hm⟩ := bnd hm
  refine kVp _ (bs_out hgk) C X (kX3_removeUnkept l g (sa (D 1) q1) (Sh_st u q1) s5 hcl) (cw_X5_bake_X3_removeUnkept_163 C) 0 (ci := 3) rfl rfl (As := []) rfl hl (rest := []) rfl (Nat.le_of_ble_eq_true rfl) (st2 := []) rfl dX5_bake_23 ⟨Nat.le_of_ble_eq_true rfl, Nat.le_of_ble_eq_true rfl⟩ (w3 := wB g D (r3, R.2) (Sh_s_st u q1 s5) ts bs ps s2 ns) (bs_in hgk s5) (fun H locs X => ?_)
  clear hcl
  obtain ⟨u6, eu⟩ : ∃ z, z = Sh_s_st u q1 s5 := ⟨_, rfl⟩
  have hm := lt_t eu hm
  rw [← eu] at X
  clear eu
  refine lv_iload_n hx hb dX5_bake_26 rfl (lv_at hl 0 rfl) ?_
  refine lv_aload_n hx hb dX5_bake_27 rfl (lv_at hl 1 rfl) ?_
  obtain ⟨hgk, hm⟩ := gd_t hm
  have hgk := of_decide_eq_true hgk
  obtain ⟨r7, hcl, hm⟩ := bnd hm
  refine kVp _ (bs_out hgk) C X (kX3_size l g (sa (D 1) q1) (Sh_st u6 q1) r7 hcl) (cw_X5_bake_X3_size_91 C) 0 (ci := 3) rfl rfl (As := []) rfl hl (rest := [.int r4]) rfl (Nat.le_of_ble_eq_true rfl) (st2 := [.int r7, .int r4]) rfl dX5_bake_28 ⟨Nat.le_of_ble_eq_true rfl, Nat.le_of_ble_eq_true rfl⟩ (w3 := wB g D (r3, R.2) u6 ts bs ps s2 ns) (bs_in0 hgk) (fun H locs X => ?_)
  clear hcl
  refine lv_isub hx hb dX5_bake_31 ?_
  cases sm hm
  exact kxret (r3, R.2) (Nat.le_of_ble_eq_true rfl) (Nat.le_of_ble_eq_true rfl) (kiret C X dX5_bake_32)
-- X5 BrushStrokes.set(II)I
abbrev rX5_set : Room := { frames := 7, cells := 15, slots := 401, locals := 253 }
theorem fl_X5_set_10 : (Cond.fieldLink RX5 10 "BrushStrokes" "sheet" "LBrushStrokes$Sheet;") ∈ wsX5_set := by decide +kernel
theorem fl_X5_set_169 : (Cond.fieldLink RX5 169 "BrushStrokes" "LEAST_VALUES" "[I") ∈ wsX5_set := by decide +kernel
theorem fl_X5_set_177 : (Cond.fieldLink RX5 177 "BrushStrokes" "GREATEST_VALUES" "[I") ∈ wsX5_set := by decide +kernel
theorem fl_X5_set_19 : (Cond.fieldLink RX5 19 "BrushStrokes" "history" "LBrushStrokes$History;") ∈ wsX5_set := by decide +kernel
theorem in_X5_set_X5 : ∀ w ∈ u_ws RX5 TX5 5, w ∈ wsX5_set := by decide +kernel
theorem cw_X5_set_X5_requireSetting_166 {p : Program} {s : State} {m : MethodId} {args : Array Value} {meth : Method} {c : Code} {g : kG} {A : Nat → Prop} (C : CT g p s m args meth c RX5 cX5_set 4 (some .int) wsX5_set A) : CallB rX5_set s args RX5 166 yX5_requireSetting cX5_requireSetting 1 none wsX5_requireSetting rX5_requireSetting 1 6 1 ∧ (Cond.static yX5_requireSetting).before args s = true := va_cwS 1 C.2.2.2.2.2.1 gX5_set_X5_requireSetting rfl rfl rfl (by decide +kernel) ⟨Nat.le_of_ble_eq_true rfl, Nat.le_of_ble_eq_true rfl⟩
theorem cw_X5_set_X5_cell_173 {p : Program} {s : State} {m : MethodId} {args : Array Value} {meth : Method} {c : Code} {g : kG} {A : Nat → Prop} (C : CT g p s m args meth c RX5 cX5_set 4 (some .int) wsX5_set A) : CallB rX5_set s args RX5 173 yX5_cell cX5_cell 2 (some .int) wsX5_cell rX5_cell 0 0 2 ∧ (Cond.static yX5_cell).before args s = true := va_cwS 2 C.2.2.2.2.2.1 gX5_set_X5_cell rfl rfl rfl (by decide +kernel) ⟨Nat.le_of_ble_eq_true rfl, Nat.le_of_ble_eq_true rfl⟩
theorem cw_X5_set_X5_requireBetween_180 {p : Program} {s : State} {m : MethodId} {args : Array Value} {meth : Method} {c : Code} {g : kG} {A : Nat → Prop} (C : CT g p s m args meth c RX5 cX5_set 4 (some .int) wsX5_set A) : CallB rX5_set s args RX5 180 yX5_requireBetween cX5_requireBetween 3 none wsX5_requireBetween rX5_requireBetween 1 6 3 ∧ (Cond.static yX5_requireBetween).before args s = true := va_cwS 3 C.2.2.2.2.2.1 gX5_set_X5_requireBetween rfl rfl rfl (by decide +kernel) ⟨Nat.le_of_ble_eq_true rfl, Nat.le_of_ble_eq_true rfl⟩
theorem cw_X5_set_X0_save_48 {p : Program} {s : State} {m : MethodId} {args : Array Value} {meth : Method} {c : Code} {g : kG} {A : Nat → Prop} (C : CT g p s m args meth c RX5 cX5_set 4 (some .int) wsX5_set A) : CallW rX5_set s args RX5 RX0 48 yX0_save cX0_save 4 none wsX0_save rX0_save 13 389 1 := cwV 1 C.2.2.2.2.2.1 gX5_set_X0_save rfl rfl rfl (by decide +kernel) ⟨Nat.le_of_ble_eq_true rfl, Nat.le_of_ble_eq_true rfl⟩
theorem cw_X5_set_X1_value_147 {p : Program} {s : State} {m : MethodId} {args : Array Value} {meth : Method} {c : Code} {g : kG} {A : Nat → Prop} (C : CT g p s m args meth c RX5 cX5_set 4 (some .int) wsX5_set A) : CallW rX5_set s args RX5 RX1 147 yX1_value cX1_value 2 (some .int) wsX1_value rX1_value 0 0 1 := cwV 1 C.2.2.2.2.2.1 gX5_set_X1_value rfl rfl rfl (by decide +kernel) ⟨Nat.le_of_ble_eq_true rfl, Nat.le_of_ble_eq_true rfl⟩
theorem cw_X5_set_X1_putValue_183 {p : Program} {s : State} {m : MethodId} {args : Array Value} {meth : Method} {c : Code} {g : kG} {A : Nat → Prop} (C : CT g p s m args meth c RX5 cX5_set 4 (some .int) wsX5_set A) : CallW rX5_set s args RX5 RX1 183 yX1_putValue cX1_putValue 3 none wsX1_putValue rX1_putValue 0 0 2 := cwV 2 C.2.2.2.2.2.1 gX5_set_X1_putValue rfl rfl rfl (by decide +kernel) ⟨Nat.le_of_ble_eq_true rfl, Nat.le_of_ble_eq_true rfl⟩
noncomputable def fX5_set (p1 : Int32) (p2 : Int32) (u : ShS) (hs : HS) : Option ((Nat × ShS × HS) ⊕ (Int32 × ShS × HS)) := (fX5_requireSetting p1).bind fun q => Sum.elim (fun E => some (.inl (E, u, hs))) (fun _ => (fX5_cellT1 p1).bind fun r1 => (fX5_cellT2 p1).bind fun r2 => (fX5_requireBetween p2 r1 r2).bind fun q => Sum.elim (fun E => some (.inl (E, u, hs))) (fun _ => (fX0_save hs u).bind fun s3 => (fX1_value p1 u).bind fun r5 => (fX1_putValue p1 p2 u).bind fun s6 => some (.inr (r5, s6, s3))) q) q
def obX5_set (g : kG) (D : Nat → Nat → Nat) (R : kAd) (u : ShS) (ts : TS) (bs : SS) (ps : PS) (hs : HS) (ns : NS) : (Nat × ShS × HS) ⊕ (Int32 × ShS × HS) → kOut kAd
  | .inl (E, u2, hs2) => .inl (E, fun R => wB g D R u2 ts bs ps hs2 ns)
  | .inr (v, u2, hs2) => .inr ((some (.int v)), fun R => wB g D R u2 ts bs ps hs2 ns)
set_option maxRecDepth 100000 in
set_option maxHeartbeats 4000000 in
theorem kX5_set (l : Launch) (hl9 : l.stackTraces = false) (g : kG) (D : Nat → Nat → Nat) (R : kAd) (p1 : Int32) (p2 : Int32) (u : ShS) (ts : TS) (bs : SS) (ps : PS) (hs : HS) (ns : NS) (o : (Nat × ShS × HS) ⊕ (Int32 × ShS × HS)) (hm : fX5_set p1 p2 u hs = some o) : KX (S := kAd) l yX5_set wsX5_set rX5_set g [.ref (D 0 0), .int p1, .int p2] (wB g D R u ts bs ps hs ns) (obX5_set g D R u ts bs ps hs ns o) 15 401 := by
  refine KX.of (nL := 4) (by decide) rfl (Nat.le_of_ble_eq_true rfl) ?_
  intro p e s m args below meth c A ls C htab X hl
  have C : CT g p s m args meth c RX5 cX5_set 4 (some .int) wsX5_set A := C
  have hx := C.1
  have hb := C.2.1
  have hl : lv_has ls 4 [(0, .ref (D 0 0)), (1, .int p1), (2, .int p2)] := hl
  have hinX5 := in_X5_set_X5
  have hf10 := C.2.2.2.2.2.1 _ fl_X5_set_10
  have hf19 := C.2.2.2.2.2.1 _ fl_X5_set_19
  have hf169 := C.2.2.2.2.2.1 _ fl_X5_set_169
  have hf177 := C.2.2.2.2.2.1 _ fl_X5_set_177
  rw [fX5_set] at hm
  refine lv_iload_n hx hb dX5_set_0 rfl (lv_at hl 1 rfl) ?_
  obtain ⟨q, hcl, hm⟩ := bnd hm
  rcases q with E | ⟨⟩
  · have hm := se_l hm
    cases sm hm
    exact kxSt _ (pm_no _) C htab X (kX5_requireSetting l hl9 g p1 (.inl E) hcl) (cw_X5_set_X5_requireSetting_166 C) (As := [.int p1]) rfl hl (rest := []) rfl (Nat.le_of_ble_eq_true rfl) dX5_set_1 ⟨Nat.le_of_ble_eq_true rfl, Nat.le_of_ble_eq_true rfl⟩ (Nat.le_of_ble_eq_true rfl) (Nat.le_of_ble_eq_true rfl) (fun _ => ⟨R, (pm_ni _)⟩)
  have hm := se_r hm
  refine kxS _ (pm_no _) C X (kX5_requireSetting l hl9 g p1 (.inr ()) hcl) (cw_X5_set_X5_requireSetting_166 C) (As := [.int p1]) rfl hl (rest := []) rfl (Nat.le_of_ble_eq_true rfl) (st2 := []) rfl dX5_set_1 ⟨Nat.le_of_ble_eq_true rfl, Nat.le_of_ble_eq_true rfl⟩ (w3 := (fun _ => wB g D R u ts bs ps hs ns)) (fun _ => (pm_ni _)) (fun _ H locs X => ?_)
  clear hcl
  refine lv_iload_n hx hb dX5_set_4 rfl (lv_at hl 2 rfl) ?_
  refine kgets1 C X hf169 dX5_set_5 ?_
  refine lv_iload_n hx hb dX5_set_8 rfl (lv_at hl 1 rfl) ?_
  obtain ⟨r1, hcl, hm⟩ := bnd hm
  refine kS0c C X (kX5_cellT1 l g p1 r1 hcl) (cw_X5_set_X5_cell_173 C) (As := [.ref (g.2.2.2.1), .int p1]) rfl hl (rest := [.int p2]) rfl (Nat.le_of_ble_eq_true rfl) (st2 := [.int r1, .int p2]) rfl dX5_set_9 ⟨Nat.le_of_ble_eq_true rfl, Nat.le_of_ble_eq_true rfl⟩ (fun H locs X => ?_)
  clear hcl
  refine kgets2 C X hf177 dX5_set_12 ?_
  refine lv_iload_n hx hb dX5_set_15 rfl (lv_at hl 1 rfl) ?_
  obtain ⟨r2, hcl, hm⟩ := bnd hm
  refine kS0c C X (kX5_cellT2 l g p1 r2 hcl) (cw_X5_set_X5_cell_173 C) (As := [.ref (g.2.2.2.2), .int p1]) rfl hl (rest := [.int r1, .int p2]) rfl (Nat.le_of_ble_eq_true rfl) (st2 := [.int r2, .int r1, .int p2]) rfl dX5_set_16 ⟨Nat.le_of_ble_eq_true rfl, Nat.le_of_ble_eq_true rfl⟩ (fun H locs X => ?_)
  clear hcl
  obtain ⟨q, hcl, hm⟩ := bnd hm
  rcases q with E | ⟨⟩
  · have hm := se_l hm
    cases sm hm
    exact kxSt _ (pm_no _) C htab X (kX5_requireBetween l hl9 g p2 r1 r2 (.inl E) hcl) (cw_X5_set_X5_requireBetween_180 C) (As := [.int p2, .int r1, .int r2]) rfl hl (rest := []) rfl (Nat.le_of_ble_eq_true rfl) dX5_set_19 ⟨Nat.le_of_ble_eq_true rfl, Nat.le_of_ble_eq_true rfl⟩ (Nat.le_of_ble_eq_true rfl) (Nat.le_of_ble_eq_true rfl) (fun _ => ⟨R, (pm_ni _)⟩)
  have hm := se_r hm
  refine kxS _ (pm_no _) C X (kX5_requireBetween l hl9 g p2 r1 r2 (.inr ()) hcl) (cw_X5_set_X5_requireBetween_180 C) (As := [.int p2, .int r1, .int r2]) rfl hl (rest := []) rfl (Nat.le_of_ble_eq_true rfl) (st2 := []) rfl dX5_set_19 ⟨Nat.le_of_ble_eq_true rfl, Nat.le_of_ble_eq_true rfl⟩ (w3 := (fun _ => wB g D R u ts bs ps hs ns)) (fun _ => (pm_ni _)) (fun _ H locs X => ?_)
  clear hcl
  refine lv_aload_n hx hb dX5_set_22 rfl (lv_at hl 0 rfl) ?_
  refine kget C X 0 (ci := 5) rfl rfl hinX5 1 (by decide) hf19 (v := .ref (D 5 0)) rfl dX5_set_23 ?_
  refine lv_aload_n hx hb dX5_set_26 rfl (lv_at hl 0 rfl) ?_
  refine kget C X 0 (ci := 5) rfl rfl hinX5 0 (by decide) hf10 (v := .ref (D 1 0)) rfl dX5_set_27 ?_
  obtain ⟨s3, hcl, hm⟩ := bnd hm
  refine kxV _ b41_out C X (kX0_save l g (D 5) (D 1) R.1 hs u s3 hcl) (cw_X5_set_X0_save_48 C) 0 (ci := 0) rfl rfl (As := [.ref (D 1 0)]) rfl hl (rest := []) rfl (Nat.le_of_ble_eq_true rfl) (st2 := []) rfl dX5_set_30 ⟨Nat.le_of_ble_eq_true rfl, Nat.le_of_ble_eq_true rfl⟩ (w3 := (fun r4 => wB g D (r4, R.2) u ts bs ps s3 ns)) (fun r4 => b41_in r4 s3 u) (fun r4 H locs X => ?_)
  clear hcl
  refine lv_aload_n hx hb dX5_set_33 rfl (lv_at hl 0 rfl) ?_
  refine kget C X 0 (ci := 5) rfl rfl hinX5 0 (by decide) hf10 (v := .ref (D 1 0)) rfl dX5_set_34 ?_
  refine lv_iload_n hx hb dX5_set_37 rfl (lv_at hl 1 rfl) ?_
  obtain ⟨r5, hcl, hm⟩ := bnd hm
  refine kVp _ b1_out C X (kX1_value l g (D 1) p1 u r5 hcl) (cw_X5_set_X1_value_147 C) 0 (ci := 1) rfl rfl (As := [.int p1]) rfl hl (rest := []) rfl (Nat.le_of_ble_eq_true rfl) (st2 := [.int r5]) rfl dX5_set_38 ⟨Nat.le_of_ble_eq_true rfl, Nat.le_of_ble_eq_true rfl⟩ (w3 := wB g D (r4, R.2) u ts bs ps s3 ns) (b1_in u) (fun H locs X => ?_)
  clear hcl
  refine lv_istore_n (lv' := [(3, .int r5), (0, .ref (D 0 0)), (1, .int p1), (2, .int p2)]) hx hb dX5_set_41 rfl hl (by decide) rfl (fun ls hl => ?_)
  refine lv_aload_n hx hb dX5_set_42 rfl (lv_at hl 1 rfl) ?_
  refine kget C X 0 (ci := 5) rfl rfl hinX5 0 (by decide) hf10 (v := .ref (D 1 0)) rfl dX5_set_43 ?_
  refine lv_iload_n hx hb dX5_set_46 rfl (lv_at hl 2 rfl) ?_
  refine lv_iload_n hx hb dX5_set_47 rfl (lv_at hl 3 rfl) ?_
  obtain ⟨s6, hcl, hm⟩ := bnd hm
  refine kVp _ b1_out C X (kX1_putValue l g (D 1) p1 p2 u s6 hcl) (cw_X5_set_X1_putValue_183 C) 0 (ci := 1) rfl rfl (As := [.int p1, .int p2]) rfl hl (rest := []) rfl (Nat.le_of_ble_eq_true rfl) (st2 := []) rfl dX5_set_48 ⟨Nat.le_of_ble_eq_true rfl, Nat.le_of_ble_eq_true rfl⟩ (w3 := wB g D (r4, R.2) s6 ts bs ps s3 ns) (b1_in s6) (fun H locs X => ?_)
  clear hcl
  refine lv_iload_n hx hb dX5_set_51 rfl (lv_at hl 0 rfl) ?_
  cases sm hm
  exact kxret (r4, R.2) (Nat.le_of_ble_eq_true rfl) (Nat.le_of_ble_eq_true rfl) (kiret C X dX5_set_52)
