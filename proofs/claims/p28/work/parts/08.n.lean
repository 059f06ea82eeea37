section KP2
variable {p : Program} {l : Launch} {e : Env} {R : Room} {s : State} {m : MethodId} {args : Array Value} {below : List Frame} {meth : Method} {c : Code} {H : Heap} {locs : List Loc} {cells slots : Nat} {Q : State → Prop}
variable {g : kG} {A : Nat → Prop} {own : String} {cc : ByteArray} {nL : Nat} {ret : Option FieldType} {Ts : List Cond} {pc : Nat} {ls : Array Slot} {rest : List Value} {ws w2 w3 : va_W}
variable {y : MethodName} {bytes : ByteArray} {maxL n index mc ms : Nat} {rt : Option FieldType} {wsY : List Cond} {rm : Room} {Cn : String} {b : Nat} {As st0 st2 : List Value} {r : Option Value} {wc wr : va_W} {lv : List (Nat × Value)}
/-- a static call on a part of the world -/
theorem kSp (wr : va_W) (hp : ws.Perm (wc ++ wr)) (C : CT g p s m args meth c own cc nL ret Ts A) (X : ST g A s H locs ws) (hM : KM l y wsY rm g As wc r w2 mc ms) (cw : CallB R s args own index y bytes maxL rt wsY rm mc ms n ∧ (Cond.static y).before args s = true) (hlen : As.length = n) (hl : lv_has ls nL lv) (hst : st0 = As.reverse ++ rest) (hroom : (rest.map fun v => v.category).sum ≤ 8) (hst2 : r.toList ++ rest = st2) (hdg : decode cc pc = .ok (.invokestatic index, 3)) (hf : cells + mc ≤ R.cells ∧ slots + ms ≤ R.slots) (hp2 : (wr ++ w2).Perm w3)
    (kk : ∀ (H1 : Heap) (locs1 : List Loc), ST g A s H1 locs1 w3 → W p l e R s m args below meth c H1 locs1 (cells + mc) (slots + ms) Q (F0 m (pc + 3) ls st2)) : W p l e R s m args below meth c H locs cells slots Q (F0 m pc ls st0) :=
  kS (isC := List.range wc.length) (isR := (List.range wr.length).map (fun i => wc.length + i)) (wr := wr) C (X.perm hp) hM cw (k_appL wc wr) (k_nd_range _) (k_appR wc wr) (k_nd_shift _ _) (fun i hi hj => by
    obtain ⟨k, -, rfl⟩ := List.mem_map.mp hi
    rw [List.mem_range] at hj
    omega) hlen hl hst hroom hst2 hdg hf (fun H1 locs1 X1 => kk H1 locs1 (X1.perm hp2))
end KP2
-- X5 BrushStrokes.requireBetween(III)V
abbrev rX5_requireBetweenN : Room := { frames := 0, cells := 0, slots := 0, locals := 0 }
noncomputable def fX5_requireBetweenN (p1 : Int32) (p2 : Int32) (p3 : Int32) : Option (Unit) := if p1 < p2 then none else (if p1 ≤ p3 then (some ()) else none)
set_option maxRecDepth 100000 in
set_option maxHeartbeats 4000000 in
theorem kX5_requireBetweenN (l : Launch) (g : kG) (p1 : Int32) (p2 : Int32) (p3 : Int32) (hm : fX5_requireBetweenN p1 p2 p3 = some ()) : KM l yX5_requireBetween wsX5_requireBetween rX5_requireBetweenN g [.int p1, .int p2, .int p3] ([]) none ([]) 0 0 := by
  refine KM.of (nL := 3) (by decide) rfl (Nat.le_of_ble_eq_true rfl) ?_
  intro p e s m args below meth c A ls C X hl
  have C : CT g p s m args meth c RX5 cX5_requireBetween 3 none wsX5_requireBetween A := C
  have hx := C.1
  have hb := C.2.1
  have hl : lv_has ls 3 [(0, .int p1), (1, .int p2), (2, .int p3)] := hl
  rw [fX5_requireBetweenN] at hm
  refine lv_iload_n hx hb dX5_requireBetween_0 rfl (lv_at hl 0 rfl) ?_
  refine lv_iload_n hx hb dX5_requireBetween_1 rfl (lv_at hl 1 rfl) ?_
  refine lv_icmp_lt (tgt := 10) hx hb dX5_requireBetween_2 (by decide) (fun hc => ?_) (fun hc => ?_)
  · have hm := ifp hc hm
    cases hm
  · have hm := ifn hc hm
    refine lv_iload_n hx hb dX5_requireBetween_5 rfl (lv_at hl 0 rfl) ?_
    refine lv_iload_n hx hb dX5_requireBetween_6 rfl (lv_at hl 2 rfl) ?_
    refine lv_icmp_le (tgt := 21) hx hb dX5_requireBetween_7 (by decide) (fun hc => ?_) (fun hc => ?_)
    · have hm := ifp hc hm
      cases sm hm
      exact kvret C X dX5_requireBetween_21
    · have hm := ifn hc hm
      cases hm
-- X5 BrushStrokes.requireWay(I)V
abbrev rX5_requireWayN : Room := { frames := 1, cells := 0, slots := 0, locals := 22 }
theorem cw_X5_requireWayN_X5_requireBetween_180 {p : Program} {s : State} {m : MethodId} {args : Array Value} {meth : Method} {c : Code} {g : kG} {A : Nat → Prop} (C : CT g p s m args meth c RX5 cX5_requireWay 1 none wsX5_requireWay A) : CallB rX5_requireWayN s args RX5 180 yX5_requireBetween cX5_requireBetween 3 none wsX5_requireBetween rX5_requireBetweenN 0 0 3 ∧ (Cond.static yX5_requireBetween).before args s = true := va_cwS 3 C.2.2.2.2.2.1 gX5_requireWay_X5_requireBetween rfl rfl rfl (by decide +kernel) ⟨Nat.le_of_ble_eq_true rfl, Nat.le_of_ble_eq_true rfl⟩
noncomputable def fX5_requireWayN (p1 : Int32) : Option (Unit) := (fX5_requireBetweenN p1 0 1).bind fun _ => some ()
set_option maxRecDepth 100000 in
set_option maxHeartbeats 4000000 in
theorem kX5_requireWayN (l : Launch) (g : kG) (p1 : Int32) (hm : fX5_requireWayN p1 = some ()) : KM l yX5_requireWay wsX5_requireWay rX5_requireWayN g [.int p1] ([]) none ([]) 0 0 := by
  refine KM.of (nL := 1) (by decide) rfl (Nat.le_of_ble_eq_true rfl) ?_
  intro p e s m args below meth c A ls C X hl
  have C : CT g p s m args meth c RX5 cX5_requireWay 1 none wsX5_requireWay A := C
  have hx := C.1
  have hb := C.2.1
  have hl : lv_has ls 1 [(0, .int p1)] := hl
  rw [fX5_requireWayN] at hm
  refine lv_iload_n hx hb dX5_requireWay_0 rfl (lv_at hl 0 rfl) ?_
  refine lv_iconst (v := 0) hx hb dX5_requireWay_1 (by decide) ?_
  refine lv_iconst (v := 1) hx hb dX5_requireWay_2 (by decide) ?_
  obtain ⟨⟨⟩, hcl, hm⟩ := bnd hm
  refine kS0c C X (kX5_requireBetweenN l g p1 0 1  hcl) (cw_X5_requireWayN_X5_requireBetween_180 C) (As := [.int p1, .int 0, .int 1]) rfl hl (rest := []) rfl (Nat.le_of_ble_eq_true rfl) (st2 := []) rfl dX5_requireWay_3 ⟨Nat.le_of_ble_eq_true rfl, Nat.le_of_ble_eq_true rfl⟩ (fun H locs X => ?_)
  clear hcl
  cases sm hm
  exact kvret C X dX5_requireWay_6
-- X5 BrushStrokes.requireSetting(I)V
abbrev rX5_requireSettingN : Room := { frames := 0, cells := 0, slots := 0, locals := 0 }
theorem fl_X5_requireSettingN_290 : (Cond.fieldLink RX5 290 "BrushStrokes" "FIRST_VALUES" "[I") ∈ wsX5_requireSetting := by decide +kernel
noncomputable def fX5_requireSettingN (p1 : Int32) : Option (Unit) := if p1 < 0 then none else (if p1 < 4 then (some ()) else none)
set_option maxRecDepth 100000 in
set_option maxHeartbeats 4000000 in
theorem kX5_requireSettingN (l : Launch) (g : kG) (p1 : Int32) (hm : fX5_requireSettingN p1 = some ()) : KM l yX5_requireSetting wsX5_requireSetting rX5_requireSettingN g [.int p1] ([]) none ([]) 0 0 := by
  refine KM.of (nL := 1) (by decide) rfl (Nat.le_of_ble_eq_true rfl) ?_
  intro p e s m args below meth c A ls C X hl
  have C : CT g p s m args meth c RX5 cX5_requireSetting 1 none wsX5_requireSetting A := C
  have hx := C.1
  have hb := C.2.1
  have hl : lv_has ls 1 [(0, .int p1)] := hl
  have hf290 := C.2.2.2.2.2.1 _ fl_X5_requireSettingN_290
  rw [fX5_requireSettingN] at hm
  refine lv_iload_n hx hb dX5_requireSetting_0 rfl (lv_at hl 0 rfl) ?_
  refine lv_if_lt (tgt := 12) hx hb dX5_requireSetting_1 (by decide) (fun hc => ?_) (fun hc => ?_)
  · have hm := ifp hc hm
    cases hm
  · have hm := ifn hc hm
    refine lv_iload_n hx hb dX5_requireSetting_4 rfl (lv_at hl 0 rfl) ?_
    refine kgets0 C X hf290 dX5_requireSetting_5 ?_
    refine kslen0 C X dX5_requireSetting_8 ?_
    refine lv_icmp_lt (tgt := 23) hx hb dX5_requireSetting_9 (by decide) (fun hc => ?_) (fun hc => ?_)
    · have hm := ifp hc hm
      cases sm hm
      exact kvret C X dX5_requireSetting_23
    · have hm := ifn hc hm
      cases hm
-- X5 BrushStrokes.requirePoint(LBrushStrokes$Stroke;I)V
abbrev rX5_requirePointN : Room := { frames := 1, cells := 0, slots := 0, locals := 20 }
theorem cw_X5_requirePointN_X3_size_91 {p : Program} {s : State} {m : MethodId} {args : Array Value} {meth : Method} {c : Code} {g : kG} {A : Nat → Prop} (C : CT g p s m args meth c RX5 cX5_requirePoint 2 none wsX5_requirePoint A) : CallW rX5_requirePointN s args RX5 RX3 91 yX3_size cX3_size 1 (some .int) wsX3_size rX3_size 0 0 0 := cwV 0 C.2.2.2.2.2.1 gX5_requirePoint_X3_size rfl rfl rfl (by decide +kernel) ⟨Nat.le_of_ble_eq_true rfl, Nat.le_of_ble_eq_true rfl⟩
noncomputable def fX5_requirePointN (p1 : Int32) (u : SS) : Option (Unit) := if p1 < 0 then none else ((fX3_size u).bind fun r1 => if p1 < r1 then (some ()) else none)
set_option maxRecDepth 100000 in
set_option maxHeartbeats 4000000 in
theorem kX5_requirePointN (l : Launch) (g : kG) (a : Nat → Nat) (p1 : Int32) (u : SS) (hm : fX5_requirePointN p1 u = some ()) : KM l yX5_requirePoint wsX5_requirePoint rX5_requirePointN g [.ref (a 0), .int p1] (wS g a u) none (wS g a u) 0 0 := by
  refine KM.of (nL := 2) (by decide) rfl (Nat.le_of_ble_eq_true rfl) ?_
  intro p e s m args below meth c A ls C X hl
  have C : CT g p s m args meth c RX5 cX5_requirePoint 2 none wsX5_requirePoint A := C
  have hx := C.1
  have hb := C.2.1
  have hl : lv_has ls 2 [(0, .ref (a 0)), (1, .int p1)] := hl
  rw [fX5_requirePointN] at hm
  refine lv_iload_n hx hb dX5_requirePoint_0 rfl (lv_at hl 1 rfl) ?_
  refine lv_if_lt (tgt := 12) hx hb dX5_requirePoint_1 (by decide) (fun hc => ?_) (fun hc => ?_)
  · have hm := ifp hc hm
    cases hm
  · have hm := ifn hc hm
    refine lv_iload_n hx hb dX5_requirePoint_4 rfl (lv_at hl 1 rfl) ?_
    refine lv_aload_n hx hb dX5_requirePoint_5 rfl (lv_at hl 0 rfl) ?_
    obtain ⟨r1, hcl, hm⟩ := bnd hm
    refine kVp _ (pm_wh _) C X (kX3_size l g a u r1 hcl) (cw_X5_requirePointN_X3_size_91 C) 0 (ci := 3) rfl rfl (As := []) rfl hl (rest := [.int p1]) rfl (Nat.le_of_ble_eq_true rfl) (st2 := [.int r1, .int p1]) rfl dX5_requirePoint_6 ⟨Nat.le_of_ble_eq_true rfl, Nat.le_of_ble_eq_true rfl⟩ (w3 := wS g a u) (pm_wi _) (fun H locs X => ?_)
    clear hcl
    refine lv_icmp_lt (tgt := 23) hx hb dX5_requirePoint_9 (by decide) (fun hc => ?_) (fun hc => ?_)
    · have hm := ifp hc hm
      cases sm hm
      exact kvret C X dX5_requirePoint_23
    · have hm := ifn hc hm
      cases hm
-- X5 BrushStrokes.requireStroke(I)V
abbrev rX5_requireStrokeN : Room := { frames := 1, cells := 0, slots := 0, locals := 20 }
theorem fl_X5_requireStrokeN_10 : (Cond.fieldLink RX5 10 "BrushStrokes" "sheet" "LBrushStrokes$Sheet;") ∈ wsX5_requireStroke := by decide +kernel
theorem in_X5_requireStrokeN_X5 : ∀ w ∈ u_ws RX5 TX5 5, w ∈ wsX5_requireStroke := by decide +kernel
theorem cw_X5_requireStrokeN_X1_strokeCount_62 {p : Program} {s : State} {m : MethodId} {args : Array Value} {meth : Method} {c : Code} {g : kG} {A : Nat → Prop} (C : CT g p s m args meth c RX5 cX5_requireStroke 2 none wsX5_requireStroke A) : CallW rX5_requireStrokeN s args RX5 RX1 62 yX1_strokeCount cX1_strokeCount 1 (some .int) wsX1_strokeCount rX1_strokeCount 0 0 0 := cwV 0 C.2.2.2.2.2.1 gX5_requireStroke_X1_strokeCount rfl rfl rfl (by decide +kernel) ⟨Nat.le_of_ble_eq_true rfl, Nat.le_of_ble_eq_true rfl⟩
noncomputable def fX5_requireStrokeN (p1 : Int32) (u : ShS) : Option (Unit) := if p1 < 0 then none else ((fX1_strokeCount u).bind fun r1 => if p1 < r1 then (some ()) else none)
set_option maxRecDepth 100000 in
set_option maxHeartbeats 4000000 in
theorem kX5_requireStrokeN (l : Launch) (g : kG) (D : Nat → Nat → Nat) (R : kAd) (p1 : Int32) (u : ShS) (ts : TS) (bs : SS) (ps : PS) (hs : HS) (ns : NS) (hm : fX5_requireStrokeN p1 u = some ()) : KM l yX5_requireStroke wsX5_requireStroke rX5_requireStrokeN g [.ref (D 0 0), .int p1] (wB g D R u ts bs ps hs ns) none (wB g D R u ts bs ps hs ns) 0 0 := by
  refine KM.of (nL := 2) (by decide) rfl (Nat.le_of_ble_eq_true rfl) ?_
  intro p e s m args below meth c A ls C X hl
  have C : CT g p s m args meth c RX5 cX5_requireStroke 2 none wsX5_requireStroke A := C
  have hx := C.1
  have hb := C.2.1
  have hl : lv_has ls 2 [(0, .ref (D 0 0)), (1, .int p1)] := hl
  have hinX5 := in_X5_requireStrokeN_X5
  have hf10 := C.2.2.2.2.2.1 _ fl_X5_requireStrokeN_10
  rw [fX5_requireStrokeN] at hm
  refine lv_iload_n hx hb dX5_requireStroke_0 rfl (lv_at hl 1 rfl) ?_
  refine lv_if_lt (tgt := 15) hx hb dX5_requireStroke_1 (by decide) (fun hc => ?_) (fun hc => ?_)
  · have hm := ifp hc hm
    cases hm
  · have hm := ifn hc hm
    refine lv_iload_n hx hb dX5_requireStroke_4 rfl (lv_at hl 1 rfl) ?_
    refine lv_aload_n hx hb dX5_requireStroke_5 rfl (lv_at hl 0 rfl) ?_
    refine kget C X 0 (ci := 5) rfl rfl hinX5 0 (by decide) hf10 (v := .ref (D 1 0)) rfl dX5_requireStroke_6 ?_
    obtain ⟨r1, hcl, hm⟩ := bnd hm
    refine kVp _ b1_out C X (kX1_strokeCount l g (D 1) u r1 hcl) (cw_X5_requireStrokeN_X1_strokeCount_62 C) 0 (ci := 1) rfl rfl (As := []) rfl hl (rest := [.int p1]) rfl (Nat.le_of_ble_eq_true rfl) (st2 := [.int r1, .int p1]) rfl dX5_requireStroke_9 ⟨Nat.le_of_ble_eq_true rfl, Nat.le_of_ble_eq_true rfl⟩ (w3 := wB g D R u ts bs ps hs ns) (b1_in u) (fun H locs X => ?_)
    clear hcl
    refine lv_icmp_lt (tgt := 26) hx hb dX5_requireStroke_12 (by decide) (fun hc => ?_) (fun hc => ?_)
    · have hm := ifp hc hm
      cases sm hm
      exact kvret C X dX5_requireStroke_26
    · have hm := ifn hc hm
      cases hm
-- X5 BrushStrokes.existingStroke(I)LBrushStrokes$Stroke;
abbrev rX5_existingStrokeN : Room := { frames := 2, cells := 0, slots := 0, locals := 41 }
theorem fl_X5_existingStrokeN_10 : (Cond.fieldLink RX5 10 "BrushStrokes" "sheet" "LBrushStrokes$Sheet;") ∈ wsX5_existingStroke := by decide +kernel
theorem in_X5_existingStrokeN_X5 : ∀ w ∈ u_ws RX5 TX5 5, w ∈ wsX5_existingStroke := by decide +kernel
theorem cw_X5_existingStrokeN_X1_strokeAt_283 {p : Program} {s : State} {m : MethodId} {args : Array Value} {meth : Method} {c : Code} {g : kG} {A : Nat → Prop} (C : CT g p s m args meth c RX5 cX5_existingStroke 2 (some (.object "BrushStrokes$Stroke")) wsX5_existingStroke A) : CallW rX5_existingStrokeN s args RX5 RX1 283 yX1_strokeAt cX1_strokeAt 3 (some (.object "BrushStrokes$Stroke")) wsX1_strokeAt rX1_strokeAt 0 0 1 := cwV 1 C.2.2.2.2.2.1 gX5_existingStroke_X1_strokeAt rfl rfl rfl (by decide +kernel) ⟨Nat.le_of_ble_eq_true rfl, Nat.le_of_ble_eq_true rfl⟩
theorem cw_X5_existingStrokeN_X5_requireStroke_134 {p : Program} {s : State} {m : MethodId} {args : Array Value} {meth : Method} {c : Code} {g : kG} {A : Nat → Prop} (C : CT g p s m args meth c RX5 cX5_existingStroke 2 (some (.object "BrushStrokes$Stroke")) wsX5_existingStroke A) : CallW rX5_existingStrokeN s args RX5 RX5 134 yX5_requireStroke cX5_requireStroke 2 none wsX5_requireStroke rX5_requireStrokeN 0 0 1 := cwV 1 C.2.2.2.2.2.1 gX5_existingStroke_X5_requireStroke rfl rfl rfl (by decide +kernel) ⟨Nat.le_of_ble_eq_true rfl, Nat.le_of_ble_eq_true rfl⟩
noncomputable def fX5_existingStrokeN (p1 : Int32) (u : ShS) : Option (Nat) := (fX5_requireStrokeN p1 u).bind fun _ => (fX1_strokeAt p1 u).bind fun q1 => some q1
set_option maxRecDepth 100000 in
set_option maxHeartbeats 4000000 in
theorem kX5_existingStrokeN (l : Launch) (g : kG) (D : Nat → Nat → Nat) (R : kAd) (p1 : Int32) (u : ShS) (ts : TS) (bs : SS) (ps : PS) (hs : HS) (ns : NS) (o1 : Nat) (hm : fX5_existingStrokeN p1 u = some o1) : KM l yX5_existingStroke wsX5_existingStroke rX5_existingStrokeN g [.ref (D 0 0), .int p1] (wB g D R u ts bs ps hs ns) (some (.ref (D 1 (3 + 2 * o1)))) (wB g D R u ts bs ps hs ns) 0 0 := by
  refine KM.of (nL := 2) (by decide) rfl (Nat.le_of_ble_eq_true rfl) ?_
  intro p e s m args below meth c A ls C X hl
  have C : CT g p s m args meth c RX5 cX5_existingStroke 2 (some (.object "BrushStrokes$Stroke")) wsX5_existingStroke A := C
  have hx := C.1
  have hb := C.2.1
  have hl : lv_has ls 2 [(0, .ref (D 0 0)), (1, .int p1)] := hl
  have hinX5 := in_X5_existingStrokeN_X5
  have hf10 := C.2.2.2.2.2.1 _ fl_X5_existingStrokeN_10
  rw [fX5_existingStrokeN] at hm
  refine lv_aload_n hx hb dX5_existingStroke_0 rfl (lv_at hl 0 rfl) ?_
  refine lv_iload_n hx hb dX5_existingStroke_1 rfl (lv_at hl 1 rfl) ?_
  obtain ⟨⟨⟩, hcl, hm⟩ := bnd hm
  refine kVp _ (pm_wh _) C X (kX5_requireStrokeN l g D R p1 u ts bs ps hs ns  hcl) (cw_X5_existingStrokeN_X5_requireStroke_134 C) 0 (ci := 5) rfl rfl (As := [.int p1]) rfl hl (rest := []) rfl (Nat.le_of_ble_eq_true rfl) (st2 := []) rfl dX5_existingStroke_2 ⟨Nat.le_of_ble_eq_true rfl, Nat.le_of_ble_eq_true rfl⟩ (w3 := wB g D R u ts bs ps hs ns) (pm_wi _) (fun H locs X => ?_)
  clear hcl
  refine lv_aload_n hx hb dX5_existingStroke_5 rfl (lv_at hl 0 rfl) ?_
  refine kget C X 0 (ci := 5) rfl rfl hinX5 0 (by decide) hf10 (v := .ref (D 1 0)) rfl dX5_existingStroke_6 ?_
  refine lv_iload_n hx hb dX5_existingStroke_9 rfl (lv_at hl 1 rfl) ?_
  obtain ⟨q1, hcl, hm⟩ := bnd hm
  refine kVp _ b1_out C X (kX1_strokeAt l g (D 1) p1 u q1 hcl) (cw_X5_existingStrokeN_X1_strokeAt_283 C) 0 (ci := 1) rfl rfl (As := [.int p1]) rfl hl (rest := []) rfl (Nat.le_of_ble_eq_true rfl) (st2 := [.ref (D 1 (3 + 2 * q1))]) rfl dX5_existingStroke_10 ⟨Nat.le_of_ble_eq_true rfl, Nat.le_of_ble_eq_true rfl⟩ (w3 := wB g D R u ts bs ps hs ns) (b1_in u) (fun H locs X => ?_)
  clear hcl
  cases sm hm
  exact karet C X dX5_existingStroke_13
-- X5 BrushStrokes.point(III)I
abbrev rX5_point : Room := { frames := 5, cells := 0, slots := 0, locals := 116 }
theorem fl_X5_point_10 : (Cond.fieldLink RX5 10 "BrushStrokes" "sheet" "LBrushStrokes$Sheet;") ∈ wsX5_point := by decide +kernel
theorem in_X5_point_X5 : ∀ w ∈ u_ws RX5 TX5 5, w ∈ wsX5_point := by decide +kernel
theorem cw_X5_point_X5_requirePoint_112 {p : Program} {s : State} {m : MethodId} {args : Array Value} {meth : Method} {c : Code} {g : kG} {A : Nat → Prop} (C : CT g p s m args meth c RX5 cX5_point 5 (some .int) wsX5_point A) : CallB rX5_point s args RX5 112 yX5_requirePoint cX5_requirePoint 2 none wsX5_requirePoint rX5_requirePointN 0 0 2 ∧ (Cond.static yX5_requirePoint).before args s = true := va_cwS 2 C.2.2.2.2.2.1 gX5_point_X5_requirePoint rfl rfl rfl (by decide +kernel) ⟨Nat.le_of_ble_eq_true rfl, Nat.le_of_ble_eq_true rfl⟩
theorem cw_X5_point_X1_value_147 {p : Program} {s : State} {m : MethodId} {args : Array Value} {meth : Method} {c : Code} {g : kG} {A : Nat → Prop} (C : CT g p s m args meth c RX5 cX5_point 5 (some .int) wsX5_point A) : CallW rX5_point s args RX5 RX1 147 yX1_value cX1_value 2 (some .int) wsX1_value rX1_value 0 0 1 := cwV 1 C.2.2.2.2.2.1 gX5_point_X1_value rfl rfl rfl (by decide +kernel) ⟨Nat.le_of_ble_eq_true rfl, Nat.le_of_ble_eq_true rfl⟩
theorem cw_X5_point_X3_kind_216 {p : Program} {s : State} {m : MethodId} {args : Array Value} {meth : Method} {c : Code} {g : kG} {A : Nat → Prop} (C : CT g p s m args meth c RX5 cX5_point 5 (some .int) wsX5_point A) : CallW rX5_point s args RX5 RX3 216 yX3_kind cX3_kind 4 (some .int) wsX3_kind rX3_kind 0 0 3 := cwV 3 C.2.2.2.2.2.1 gX5_point_X3_kind rfl rfl rfl (by decide +kernel) ⟨Nat.le_of_ble_eq_true rfl, Nat.le_of_ble_eq_true rfl⟩
theorem cw_X5_point_X3_stray_220 {p : Program} {s : State} {m : MethodId} {args : Array Value} {meth : Method} {c : Code} {g : kG} {A : Nat → Prop} (C : CT g p s m args meth c RX5 cX5_point 5 (some .int) wsX5_point A) : CallW rX5_point s args RX5 RX3 220 yX3_stray cX3_stray 2 (some .int) wsX3_stray rX3_stray 0 0 1 := cwV 1 C.2.2.2.2.2.1 gX5_point_X3_stray rfl rfl rfl (by decide +kernel) ⟨Nat.le_of_ble_eq_true rfl, Nat.le_of_ble_eq_true rfl⟩
theorem cw_X5_point_X5_existingStroke_87 {p : Program} {s : State} {m : MethodId} {args : Array Value} {meth : Method} {c : Code} {g : kG} {A : Nat → Prop} (C : CT g p s m args meth c RX5 cX5_point 5 (some .int) wsX5_point A) : CallW rX5_point s args RX5 RX5 87 yX5_existingStroke cX5_existingStroke 2 (some (.object "BrushStrokes$Stroke")) wsX5_existingStroke rX5_existingStrokeN 0 0 1 := cwV 1 C.2.2.2.2.2.1 gX5_point_X5_existingStroke rfl rfl rfl (by decide +kernel) ⟨Nat.le_of_ble_eq_true rfl, Nat.le_of_ble_eq_true rfl⟩
theorem cw_X5_point_X3_x_116 {p : Program} {s : State} {m : MethodId} {args : Array Value} {meth : Method} {c : Code} {g : kG} {A : Nat → Prop} (C : CT g p s m args meth c RX5 cX5_point 5 (some .int) wsX5_point A) : CallW rX5_point s args RX5 RX3 116 yX3_x cX3_x 3 (some .int) wsX3_x rX3_x 0 0 1 := cwV 1 C.2.2.2.2.2.1 gX5_point_X3_x rfl rfl rfl (by decide +kernel) ⟨Nat.le_of_ble_eq_true rfl, Nat.le_of_ble_eq_true rfl⟩
theorem cw_X5_point_X3_y_120 {p : Program} {s : State} {m : MethodId} {args : Array Value} {meth : Method} {c : Code} {g : kG} {A : Nat → Prop} (C : CT g p s m args meth c RX5 cX5_point 5 (some .int) wsX5_point A) : CallW rX5_point s args RX5 RX3 120 yX3_y cX3_y 3 (some .int) wsX3_y rX3_y 0 0 1 := cwV 1 C.2.2.2.2.2.1 gX5_point_X3_y rfl rfl rfl (by decide +kernel) ⟨Nat.le_of_ble_eq_true rfl, Nat.le_of_ble_eq_true rfl⟩
theorem cw_X5_point_X3_width_209 {p : Program} {s : State} {m : MethodId} {args : Array Value} {meth : Method} {c : Code} {g : kG} {A : Nat → Prop} (C : CT g p s m args meth c RX5 cX5_point 5 (some .int) wsX5_point A) : CallW rX5_point s args RX5 RX3 209 yX3_width cX3_width 3 (some .int) wsX3_width rX3_width 0 0 1 := cwV 1 C.2.2.2.2.2.1 gX5_point_X3_width rfl rfl rfl (by decide +kernel) ⟨Nat.le_of_ble_eq_true rfl, Nat.le_of_ble_eq_true rfl⟩
theorem cw_X5_point_X3_isKept_212 {p : Program} {s : State} {m : MethodId} {args : Array Value} {meth : Method} {c : Code} {g : kG} {A : Nat → Prop} (C : CT g p s m args meth c RX5 cX5_point 5 (some .int) wsX5_point A) : CallW rX5_point s args RX5 RX3 212 yX3_isKept cX3_isKept 2 (some .boolean) wsX3_isKept rX3_isKept 0 0 1 := cwV 1 C.2.2.2.2.2.1 gX5_point_X3_isKept rfl rfl rfl (by decide +kernel) ⟨Nat.le_of_ble_eq_true rfl, Nat.le_of_ble_eq_true rfl⟩
noncomputable def fX5_point (p1 : Int32) (p2 : Int32) (p3 : Int32) (u : ShS) : Option (Int32) := (fX5_existingStrokeN p1 u).bind fun q1 => gd (decide (q1 < 5)) ((fX5_requirePointN p2 (Sh_st u q1)).bind fun _ => if p3 = 0 then (gd (decide (q1 < 5)) ((fX3_x p2 (Sh_st u q1)).bind fun r2 => some r2)) else (if p3 = 1 then (gd (decide (q1 < 5)) ((fX3_y p2 (Sh_st u q1)).bind fun r3 => some r3)) else (if p3 = 2 then (gd (decide (q1 < 5)) ((fX3_width p2 (Sh_st u q1)).bind fun r4 => some r4)) else (if p3 = 3 then (gd (decide (q1 < 5)) ((fX3_isKept p2 (Sh_st u q1)).bind fun r5 => ((if r5 = 0 then (some 0) else (some 1)) : Option (Int32)).bind fun v6 => some v6)) else (if p3 = 4 then ((fX1_value 1 u).bind fun r7 => (fX1_value 2 u).bind fun r8 => gd (decide (q1 < 5)) ((fX3_kind p2 r7 r8 (Sh_st u q1)).bind fun r9 => some r9)) else (if p3 = 5 then (gd (decide (q1 < 5)) ((fX3_stray p2 (Sh_st u q1)).bind fun r10 => some r10)) else (none)))))))
set_option maxRecDepth 100000 in
set_option maxHeartbeats 4000000 in
theorem kX5_point (l : Launch) (g : kG) (D : Nat → Nat → Nat) (R : kAd) (p1 : Int32) (p2 : Int32) (p3 : Int32) (u : ShS) (ts : TS) (bs : SS) (ps : PS) (hs : HS) (ns : NS) (o1 : Int32) (hm : fX5_point p1 p2 p3 u = some o1) : KM l yX5_point wsX5_point rX5_point g [.ref (D 0 0), .int p1, .int p2, .int p3] (wB g D R u ts bs ps hs ns) (some (.int o1)) (wB g D R u ts bs ps hs ns) 0 0 := by
  refine KM.of (nL := 5) (by decide) rfl (Nat.le_of_ble_eq_true rfl) ?_
  intro p e s m args below meth c A ls C X hl
  have C : CT g p s m args meth c RX5 cX5_point 5 (some .int) wsX5_point A := C
  have hx := C.1
  have hb := C.2.1
  have hl : lv_has ls 5 [(0, .ref (D 0 0)), (1, .int p1), (2, .int p2), (3, .int p3)] := hl
  have hinX5 := in_X5_point_X5
  have hf10 := C.2.2.2.2.2.1 _ fl_X5_point_10
  rw [fX5_point] at hm
  refine lv_aload_n hx hb dX5_point_0 rfl (lv_at hl 0 rfl) ?_
  refine lv_iload_n hx hb dX5_point_1 rfl (lv_at hl 1 rfl) ?_
  obtain ⟨q1, hcl, hm⟩ := bnd hm
  refine kVp _ (pm_wh _) C X (kX5_existingStrokeN l g D R p1 u ts bs ps hs ns q1 hcl) (cw_X5_point_X5_existingStroke_87 C) 0 (ci := 5) rfl rfl (As := [.int p1]) rfl hl (rest := []) rfl (Nat.le_of_ble_eq_true rfl) (st2 := [.ref (D 1 (3 + 2 * q1))]) rfl dX5_point_2 ⟨Nat.le_of_ble_eq_true rfl, Nat.le_of_ble_eq_true rfl⟩ (w3 := wB g D R u ts bs ps hs ns) (pm_wi _) (fun H locs X => ?_)
  clear hcl
  refine lv_astore (lv' := [(4, .ref (D 1 (3 + 2 * q1))), (0, .ref (D 0 0)), (1, .int p1), (2, .int p2), (3, .int p3)]) hx hb dX5_point_5 hl (by decide) rfl (fun ls hl => ?_)
  refine lv_aload hx hb dX5_point_7 (lv_at hl 0 rfl) ?_
  refine lv_iload_n hx hb dX5_point_9 rfl (lv_at hl 3 rfl) ?_
  obtain ⟨hgk, hm⟩ := gd_t hm
  have hgk := of_decide_eq_true hgk
  obtain ⟨⟨⟩, hcl, hm⟩ := bnd hm
  refine kSp _ (bs_out hgk) C X (kX5_requirePointN l g (sa (D 1) q1) p2 (Sh_st u q1) hcl) (cw_X5_point_X5_requirePoint_112 C) (As := [.ref (D 1 (3 + 2 * q1)), .int p2]) rfl hl (rest := []) rfl (Nat.le_of_ble_eq_true rfl) (st2 := []) rfl dX5_point_10 ⟨Nat.le_of_ble_eq_true rfl, Nat.le_of_ble_eq_true rfl⟩ (w3 := wB g D R u ts bs ps hs ns) (bs_in0 hgk) (fun H locs X => ?_)
  clear hcl
  refine lv_iload_n hx hb dX5_point_13 rfl (lv_at hl 4 rfl) ?_
  by_cases hc0 : p3 = 0
  · have hm := ifp hc0 hm
    refine lv_tableIn (off := 38) (tgt := 52) hx hb dX5_point_14 (by rw [hc0]; decide) (by rw [hc0]; decide) (by rw [hc0]; rfl) (by decide) ?_
    refine lv_aload hx hb dX5_point_52 (lv_at hl 0 rfl) ?_
    refine lv_iload_n hx hb dX5_point_54 rfl (lv_at hl 3 rfl) ?_
    obtain ⟨hgk, hm⟩ := gd_t hm
    have hgk := of_decide_eq_true hgk
    obtain ⟨r2, hcl, hm⟩ := bnd hm
    refine kVp _ (bs_out hgk) C X (kX3_x l g (sa (D 1) q1) p2 (Sh_st u q1) r2 hcl) (cw_X5_point_X3_x_116 C) 0 (ci := 3) rfl rfl (As := [.int p2]) rfl hl (rest := []) rfl (Nat.le_of_ble_eq_true rfl) (st2 := [.int r2]) rfl dX5_point_55 ⟨Nat.le_of_ble_eq_true rfl, Nat.le_of_ble_eq_true rfl⟩ (w3 := wB g D R u ts bs ps hs ns) (bs_in0 hgk) (fun H locs X => ?_)
    clear hcl
    cases sm hm
    exact kiret C X dX5_point_58
  · have hm := ifn hc0 hm
    by_cases hc1 : p3 = 1
    · have hm := ifp hc1 hm
      refine lv_tableIn (off := 45) (tgt := 59) hx hb dX5_point_14 (by rw [hc1]; decide) (by rw [hc1]; decide) (by rw [hc1]; rfl) (by decide) ?_
      refine lv_aload hx hb dX5_point_59 (lv_at hl 0 rfl) ?_
      refine lv_iload_n hx hb dX5_point_61 rfl (lv_at hl 3 rfl) ?_
      obtain ⟨hgk, hm⟩ := gd_t hm
      have hgk := of_decide_eq_true hgk
      obtain ⟨r3, hcl, hm⟩ := bnd hm
      refine kVp _ (bs_out hgk) C X (kX3_y l g (sa (D 1) q1) p2 (Sh_st u q1) r3 hcl) (cw_X5_point_X3_y_120 C) 0 (ci := 3) rfl rfl (As := [.int p2]) rfl hl (rest := []) rfl (Nat.le_of_ble_eq_true rfl) (st2 := [.int r3]) rfl dX5_point_62 ⟨Nat.le_of_ble_eq_true rfl, Nat.le_of_ble_eq_true rfl⟩ (w3 := wB g D R u ts bs ps hs ns) (bs_in0 hgk) (fun H locs X => ?_)
      clear hcl
      cases sm hm
      exact kiret C X dX5_point_65
    · have hm := ifn hc1 hm
      by_cases hc2 : p3 = 2
      · have hm := ifp hc2 hm
        refine lv_tableIn (off := 52) (tgt := 66) hx hb dX5_point_14 (by rw [hc2]; decide) (by rw [hc2]; decide) (by rw [hc2]; rfl) (by decide) ?_
        refine lv_aload hx hb dX5_point_66 (lv_at hl 0 rfl) ?_
        refine lv_iload_n hx hb dX5_point_68 rfl (lv_at hl 3 rfl) ?_
        obtain ⟨hgk, hm⟩ := gd_t hm
        have hgk := of_decide_eq_true hgk
        obtain ⟨r4, hcl, hm⟩ := bnd hm
        refine kVp _ (bs_out hgk) C X (kX3_width l g (sa (D 1) q1) p2 (Sh_st u q1) r4 hcl) (cw_X5_point_X3_width_209 C) 0 (ci := 3) rfl rfl (As := [.int p2]) rfl hl (rest := []) rfl (Nat.le_of_ble_eq_true rfl) (st2 := [.int r4]) rfl dX5_point_69 ⟨Nat.le_of_ble_eq_true rfl, Nat.le_of_ble_eq_true rfl⟩ (w3 := wB g D R u ts bs ps hs ns) (bs_in0 hgk) (fun H locs X => ?_)
        clear hcl
        cases sm hm
        exact kiret C X dX5_point_72
      · have hm := ifn hc2 hm
        by_cases hc3 : p3 = 3
        · have hm := ifp hc3 hm
          refine lv_tableIn (off := 59) (tgt := 73) hx hb dX5_point_14 (by rw [hc3]; decide) (by rw [hc3]; decide) (by rw [hc3]; rfl) (by decide) ?_
          refine lv_aload hx hb dX5_point_73 (lv_at hl 0 rfl) ?_
          refine lv_iload_n hx hb dX5_point_75 rfl (lv_at hl 3 rfl) ?_
          obtain ⟨hgk, hm⟩ := gd_t hm
          have hgk := of_decide_eq_true hgk
          obtain ⟨r5, hcl, hm⟩ := bnd hm
          refine kVp _ (bs_out hgk) C X (kX3_isKept l g (sa (D 1) q1) p2 (Sh_st u q1) r5 hcl) (cw_X5_point_X3_isKept_212 C) 0 (ci := 3) rfl rfl (As := [.int p2]) rfl hl (rest := []) rfl (Nat.le_of_ble_eq_true rfl) (st2 := [.int r5]) rfl dX5_point_76 ⟨Nat.le_of_ble_eq_true rfl, Nat.le_of_ble_eq_true rfl⟩ (w3 := wB g D R u ts bs ps hs ns) (bs_in0 hgk) (fun H locs X => ?_)
          clear hcl
          obtain ⟨v6, hE, hm⟩ := bnd hm
          have K : ∀ (H : Heap) (locs : List Loc) (ls : Array Slot), ST g A s H locs (wB g D R u ts bs ps hs ns) → lv_has ls 5 [] → W p l e rX5_point s m args below meth c H locs 0 0 (kEnd g below args s (some (.int o1)) (wB g D R u ts bs ps hs ns) A 0 0) (F0 m 87 ls [.int v6]) := by
            intro H locs ls X hl
            clear hE
            cases sm hm
            exact kiret C X dX5_point_87
          clear hm
          have hm := hE
          clear hE
          refine lv_if_eq (tgt := 86) hx hb dX5_point_79 (by decide) (fun hc => ?_) (fun hc => ?_)
          · have hm := ifp hc hm
            refine lv_iconst (v := 0) hx hb dX5_point_86 (by decide) ?_
            cases sm hm
            exact K _ _ _ X (lv_sub hl [] rfl)
          · have hm := ifn hc hm
            refine lv_iconst (v := 1) hx hb dX5_point_82 (by decide) ?_
            refine lv_goto (tgt := 87) hx hb dX5_point_83 (by decide) ?_
            cases sm hm
            exact K _ _ _ X (lv_sub hl [] rfl)
        · have hm := ifn hc3 hm
          by_cases hc4 : p3 = 4
          · have hm := ifp hc4 hm
            refine lv_tableIn (off := 74) (tgt := 88) hx hb dX5_point_14 (by rw [hc4]; decide) (by rw [hc4]; decide) (by rw [hc4]; rfl) (by decide) ?_
            refine lv_aload hx hb dX5_point_88 (lv_at hl 0 rfl) ?_
            refine lv_iload_n hx hb dX5_point_90 rfl (lv_at hl 3 rfl) ?_
            refine lv_aload_n hx hb dX5_point_91 rfl (lv_at hl 1 rfl) ?_
            refine kget C X 0 (ci := 5) rfl rfl hinX5 0 (by decide) hf10 (v := .ref (D 1 0)) rfl dX5_point_92 ?_
            refine lv_iconst (v := 1) hx hb dX5_point_95 (by decide) ?_
            obtain ⟨r7, hcl, hm⟩ := bnd hm
            refine kVp _ b1_out C X (kX1_value l g (D 1) 1 u r7 hcl) (cw_X5_point_X1_value_147 C) 0 (ci := 1) rfl rfl (As := [.int 1]) rfl hl (rest := [.int p2, .ref (D 1 (3 + 2 * q1))]) rfl (Nat.le_of_ble_eq_true rfl) (st2 := [.int r7, .int p2, .ref (D 1 (3 + 2 * q1))]) rfl dX5_point_96 ⟨Nat.le_of_ble_eq_true rfl, Nat.le_of_ble_eq_true rfl⟩ (w3 := wB g D R u ts bs ps hs ns) (b1_in u) (fun H locs X => ?_)
            clear hcl
            refine lv_aload_n hx hb dX5_point_99 rfl (lv_at hl 1 rfl) ?_
            refine kget C X 0 (ci := 5) rfl rfl hinX5 0 (by decide) hf10 (v := .ref (D 1 0)) rfl dX5_point_100 ?_
            refine lv_iconst (v := 2) hx hb dX5_point_103 (by decide) ?_
            obtain ⟨r8, hcl, hm⟩ := bnd hm
            refine kVp _ b1_out C X (kX1_value l g (D 1) 2 u r8 hcl) (cw_X5_point_X1_value_147 C) 0 (ci := 1) rfl rfl (As := [.int 2]) rfl hl (rest := [.int r7, .int p2, .ref (D 1 (3 + 2 * q1))]) rfl (Nat.le_of_ble_eq_true rfl) (st2 := [.int r8, .int r7, .int p2, .ref (D 1 (3 + 2 * q1))]) rfl dX5_point_104 ⟨Nat.le_of_ble_eq_true rfl, Nat.le_of_ble_eq_true rfl⟩ (w3 := wB g D R u ts bs ps hs ns) (b1_in u) (fun H locs X => ?_)
            clear hcl
            obtain ⟨hgk, hm⟩ := gd_t hm
            have hgk := of_decide_eq_true hgk
            obtain ⟨r9, hcl, hm⟩ := bnd hm
            refine kVp _ (bs_out hgk) C X (kX3_kind l g (sa (D 1) q1) p2 r7 r8 (Sh_st u q1) r9 hcl) (cw_X5_point_X3_kind_216 C) 0 (ci := 3) rfl rfl (As := [.int p2, .int r7, .int r8]) rfl hl (rest := []) rfl (Nat.le_of_ble_eq_true rfl) (st2 := [.int r9]) rfl dX5_point_107 ⟨Nat.le_of_ble_eq_true rfl, Nat.le_of_ble_eq_true rfl⟩ (w3 := wB g D R u ts bs ps hs ns) (bs_in0 hgk) (fun H locs X => ?_)
            clear hcl
            cases sm hm
            exact kiret C X dX5_point_110
          · have hm := ifn hc4 hm
            by_cases hc5 : p3 = 5
            · have hm := ifp hc5 hm
              refine lv_tableIn (off := 97) (tgt := 111) hx hb dX5_point_14 (by rw [hc5]; decide) (by rw [hc5]; decide) (by rw [hc5]; rfl) (by decide) ?_
              refine lv_aload hx hb dX5_point_111 (lv_at hl 0 rfl) ?_
              refine lv_iload_n hx hb dX5_point_113 rfl (lv_at hl 3 rfl) ?_
              obtain ⟨hgk, hm⟩ := gd_t hm
              have hgk := of_decide_eq_true hgk
              obtain ⟨r10, hcl, hm⟩ := bnd hm
              refine kVp _ (bs_out hgk) C X (kX3_stray l g (sa (D 1) q1) p2 (Sh_st u q1) r10 hcl) (cw_X5_point_X3_stray_220 C) 0 (ci := 3) rfl rfl (As := [.int p2]) rfl hl (rest := []) rfl (Nat.le_of_ble_eq_true rfl) (st2 := [.int r10]) rfl dX5_point_114 ⟨Nat.le_of_ble_eq_true rfl, Nat.le_of_ble_eq_true rfl⟩ (w3 := wB g D R u ts bs ps hs ns) (bs_in0 hgk) (fun H locs X => ?_)
              clear hcl
              cases sm hm
              exact kiret C X dX5_point_117
            · have hm := ifn hc5 hm
              refine lv_tableOut (tgt := 118) hx hb dX5_point_14 (tb_out6 hc0 hc1 hc2 hc3 hc4 hc5) (by decide) ?_
              cases hm
-- X5 BrushStrokes.strokeOf(II)I
abbrev rX5_strokeOf : Room := { frames := 6, cells := 0, slots := 0, locals := 140 }
theorem fl_X5_strokeOf_10 : (Cond.fieldLink RX5 10 "BrushStrokes" "sheet" "LBrushStrokes$Sheet;") ∈ wsX5_strokeOf := by decide +kernel
theorem in_X5_strokeOf_X5 : ∀ w ∈ u_ws RX5 TX5 5, w ∈ wsX5_strokeOf := by decide +kernel
theorem cw_X5_strokeOf_X3_firstOfGreatestStray_232 {p : Program} {s : State} {m : MethodId} {args : Array Value} {meth : Method} {c : Code} {g : kG} {A : Nat → Prop} (C : CT g p s m args meth c RX5 cX5_strokeOf 4 (some .int) wsX5_strokeOf A) : CallW rX5_strokeOf s args RX5 RX3 232 yX3_firstOfGreatestStray cX3_firstOfGreatestStray 5 (some .int) wsX3_firstOfGreatestStray rX3_firstOfGreatestStray 0 0 0 := cwV 0 C.2.2.2.2.2.1 gX5_strokeOf_X3_firstOfGreatestStray rfl rfl rfl (by decide +kernel) ⟨Nat.le_of_ble_eq_true rfl, Nat.le_of_ble_eq_true rfl⟩
theorem cw_X5_strokeOf_X3_stray_220 {p : Program} {s : State} {m : MethodId} {args : Array Value} {meth : Method} {c : Code} {g : kG} {A : Nat → Prop} (C : CT g p s m args meth c RX5 cX5_strokeOf 4 (some .int) wsX5_strokeOf A) : CallW rX5_strokeOf s args RX5 RX3 220 yX3_stray cX3_stray 2 (some .int) wsX3_stray rX3_stray 0 0 1 := cwV 1 C.2.2.2.2.2.1 gX5_strokeOf_X3_stray rfl rfl rfl (by decide +kernel) ⟨Nat.le_of_ble_eq_true rfl, Nat.le_of_ble_eq_true rfl⟩
theorem cw_X5_strokeOf_X3_spanX_235 {p : Program} {s : State} {m : MethodId} {args : Array Value} {meth : Method} {c : Code} {g : kG} {A : Nat → Prop} (C : CT g p s m args meth c RX5 cX5_strokeOf 4 (some .int) wsX5_strokeOf A) : CallW rX5_strokeOf s args RX5 RX3 235 yX3_spanX cX3_spanX 4 (some .int) wsX3_spanX rX3_spanX 0 0 0 := cwV 0 C.2.2.2.2.2.1 gX5_strokeOf_X3_spanX rfl rfl rfl (by decide +kernel) ⟨Nat.le_of_ble_eq_true rfl, Nat.le_of_ble_eq_true rfl⟩
theorem cw_X5_strokeOf_X3_spanY_238 {p : Program} {s : State} {m : MethodId} {args : Array Value} {meth : Method} {c : Code} {g : kG} {A : Nat → Prop} (C : CT g p s m args meth c RX5 cX5_strokeOf 4 (some .int) wsX5_strokeOf A) : CallW rX5_strokeOf s args RX5 RX3 238 yX3_spanY cX3_spanY 4 (some .int) wsX3_spanY rX3_spanY 0 0 0 := cwV 0 C.2.2.2.2.2.1 gX5_strokeOf_X3_spanY rfl rfl rfl (by decide +kernel) ⟨Nat.le_of_ble_eq_true rfl, Nat.le_of_ble_eq_true rfl⟩
theorem cw_X5_strokeOf_X1_value_147 {p : Program} {s : State} {m : MethodId} {args : Array Value} {meth : Method} {c : Code} {g : kG} {A : Nat → Prop} (C : CT g p s m args meth c RX5 cX5_strokeOf 4 (some .int) wsX5_strokeOf A) : CallW rX5_strokeOf s args RX5 RX1 147 yX1_value cX1_value 2 (some .int) wsX1_value rX1_value 0 0 1 := cwV 1 C.2.2.2.2.2.1 gX5_strokeOf_X1_value rfl rfl rfl (by decide +kernel) ⟨Nat.le_of_ble_eq_true rfl, Nat.le_of_ble_eq_true rfl⟩
theorem cw_X5_strokeOf_X3_sharpJoins_241 {p : Program} {s : State} {m : MethodId} {args : Array Value} {meth : Method} {c : Code} {g : kG} {A : Nat → Prop} (C : CT g p s m args meth c RX5 cX5_strokeOf 4 (some .int) wsX5_strokeOf A) : CallW rX5_strokeOf s args RX5 RX3 241 yX3_sharpJoins cX3_sharpJoins 4 (some .int) wsX3_sharpJoins rX3_sharpJoins 0 0 1 := cwV 1 C.2.2.2.2.2.1 gX5_strokeOf_X3_sharpJoins rfl rfl rfl (by decide +kernel) ⟨Nat.le_of_ble_eq_true rfl, Nat.le_of_ble_eq_true rfl⟩
theorem cw_X5_strokeOf_X3_kept_244 {p : Program} {s : State} {m : MethodId} {args : Array Value} {meth : Method} {c : Code} {g : kG} {A : Nat → Prop} (C : CT g p s m args meth c RX5 cX5_strokeOf 4 (some .int) wsX5_strokeOf A) : CallW rX5_strokeOf s args RX5 RX3 244 yX3_kept cX3_kept 1 (some .int) wsX3_kept rX3_kept 0 0 0 := cwV 0 C.2.2.2.2.2.1 gX5_strokeOf_X3_kept rfl rfl rfl (by decide +kernel) ⟨Nat.le_of_ble_eq_true rfl, Nat.le_of_ble_eq_true rfl⟩
theorem cw_X5_strokeOf_X5_existingStroke_87 {p : Program} {s : State} {m : MethodId} {args : Array Value} {meth : Method} {c : Code} {g : kG} {A : Nat → Prop} (C : CT g p s m args meth c RX5 cX5_strokeOf 4 (some .int) wsX5_strokeOf A) : CallW rX5_strokeOf s args RX5 RX5 87 yX5_existingStroke cX5_existingStroke 2 (some (.object "BrushStrokes$Stroke")) wsX5_existingStroke rX5_existingStrokeN 0 0 1 := cwV 1 C.2.2.2.2.2.1 gX5_strokeOf_X5_existingStroke rfl rfl rfl (by decide +kernel) ⟨Nat.le_of_ble_eq_true rfl, Nat.le_of_ble_eq_true rfl⟩
theorem cw_X5_strokeOf_X3_size_91 {p : Program} {s : State} {m : MethodId} {args : Array Value} {meth : Method} {c : Code} {g : kG} {A : Nat → Prop} (C : CT g p s m args meth c RX5 cX5_strokeOf 4 (some .int) wsX5_strokeOf A) : CallW rX5_strokeOf s args RX5 RX3 91 yX3_size cX3_size 1 (some .int) wsX3_size rX3_size 0 0 0 := cwV 0 C.2.2.2.2.2.1 gX5_strokeOf_X3_size rfl rfl rfl (by decide +kernel) ⟨Nat.le_of_ble_eq_true rfl, Nat.le_of_ble_eq_true rfl⟩
theorem cw_X5_strokeOf_X3_keptCount_157 {p : Program} {s : State} {m : MethodId} {args : Array Value} {meth : Method} {c : Code} {g : kG} {A : Nat → Prop} (C : CT g p s m args meth c RX5 cX5_strokeOf 4 (some .int) wsX5_strokeOf A) : CallW rX5_strokeOf s args RX5 RX3 157 yX3_keptCount cX3_keptCount 1 (some .int) wsX3_keptCount rX3_keptCount 0 0 0 := cwV 0 C.2.2.2.2.2.1 gX5_strokeOf_X3_keptCount rfl rfl rfl (by decide +kernel) ⟨Nat.le_of_ble_eq_true rfl, Nat.le_of_ble_eq_true rfl⟩
theorem cw_X5_strokeOf_X1_countKind_225 {p : Program} {s : State} {m : MethodId} {args : Array Value} {meth : Method} {c : Code} {g : kG} {A : Nat → Prop} (C : CT g p s m args meth c RX5 cX5_strokeOf 4 (some .int) wsX5_strokeOf A) : CallW rX5_strokeOf s args RX5 RX1 225 yX1_countKind cX1_countKind 5 (some .int) wsX1_countKind rX1_countKind 0 0 2 := cwV 2 C.2.2.2.2.2.1 gX5_strokeOf_X1_countKind rfl rfl rfl (by decide +kernel) ⟨Nat.le_of_ble_eq_true rfl, Nat.le_of_ble_eq_true rfl⟩
theorem cw_X5_strokeOf_X3_keptLength_229 {p : Program} {s : State} {m : MethodId} {args : Array Value} {meth : Method} {c : Code} {g : kG} {A : Nat → Prop} (C : CT g p s m args meth c RX5 cX5_strokeOf 4 (some .int) wsX5_strokeOf A) : CallW rX5_strokeOf s args RX5 RX3 229 yX3_keptLength cX3_keptLength 3 (some .int) wsX3_keptLength rX3_keptLength 0 0 0 := cwV 0 C.2.2.2.2.2.1 gX5_strokeOf_X3_keptLength rfl rfl rfl (by decide +kernel) ⟨Nat.le_of_ble_eq_true rfl, Nat.le_of_ble_eq_true rfl⟩
noncomputable def fX5_strokeOf (p1 : Int32) (p2 : Int32) (u : ShS) : Option (Int32) := (fX5_existingStrokeN p1 u).bind fun q1 => if p2 = 0 then (gd (decide (q1 < 5)) ((fX3_size (Sh_st u q1)).bind fun r2 => some r2)) else (if p2 = 1 then (gd (decide (q1 < 5)) ((fX3_keptCount (Sh_st u q1)).bind fun r3 => some r3)) else (if p2 = 2 then ((fX1_countKind 2 q1 u).bind fun r4 => some r4) else (if p2 = 3 then ((fX1_countKind 4 q1 u).bind fun r5 => some r5) else (if p2 = 4 then (gd (decide (q1 < 5)) ((fX3_keptLength (Sh_st u q1)).bind fun r6 => some r6)) else (if p2 = 5 then (gd (decide (q1 < 5)) ((fX3_firstOfGreatestStray (Sh_st u q1)).bind fun r7 => gd (decide (q1 < 5)) ((fX3_stray r7 (Sh_st u q1)).bind fun r8 => some r8))) else (if p2 = 6 then (gd (decide (q1 < 5)) ((fX3_firstOfGreatestStray (Sh_st u q1)).bind fun r9 => some r9)) else (if p2 = 7 then (gd (decide (q1 < 5)) ((fX3_spanX (Sh_st u q1)).bind fun r10 => some r10)) else (if p2 = 8 then (gd (decide (q1 < 5)) ((fX3_spanY (Sh_st u q1)).bind fun r11 => some r11)) else (if p2 = 9 then ((fX1_value 3 u).bind fun r12 => gd (decide (q1 < 5)) ((fX3_sharpJoins r12 (Sh_st u q1)).bind fun r13 => some r13)) else (if p2 = 10 then (gd (decide (q1 < 5)) ((fX3_kept (Sh_st u q1)).bind fun r14 => some r14)) else (none)))))))))))
set_option maxRecDepth 100000 in
set_option maxHeartbeats 4000000 in
theorem kX5_strokeOf (l : Launch) (g : kG) (D : Nat → Nat → Nat) (R : kAd) (p1 : Int32) (p2 : Int32) (u : ShS) (ts : TS) (bs : SS) (ps : PS) (hs : HS) (ns : NS) (o1 : Int32) (hm : fX5_strokeOf p1 p2 u = some o1) : KM l yX5_strokeOf wsX5_strokeOf rX5_strokeOf g [.ref (D 0 0), .int p1, .int p2] (wB g D R u ts bs ps hs ns) (some (.int o1)) (wB g D R u ts bs ps hs ns) 0 0 := by
  refine KM.of (nL := 4) (by decide) rfl (Nat.le_of_ble_eq_true rfl) ?_
  intro p e s m args below meth c A ls C X hl
  have C : CT g p s m args meth c RX5 cX5_strokeOf 4 (some .int) wsX5_strokeOf A := C
  have hx := C.1
  have hb := C.2.1
  have hl : lv_has ls 4 [(0, .ref (D 0 0)), (1, .int p1), (2, .int p2)] := hl
  have hinX5 := in_X5_strokeOf_X5
  have hf10 := C.2.2.2.2.2.1 _ fl_X5_strokeOf_10
  rw [fX5_strokeOf] at hm
  refine lv_aload_n hx hb dX5_strokeOf_0 rfl (lv_at hl 0 rfl) ?_
  refine lv_iload_n hx hb dX5_strokeOf_1 rfl (lv_at hl 1 rfl) ?_
  obtain ⟨q1, hcl, hm⟩ := bnd hm
  refine kVp _ (pm_wh _) C X (kX5_existingStrokeN l g D R p1 u ts bs ps hs ns q1 hcl) (cw_X5_strokeOf_X5_existingStroke_87 C) 0 (ci := 5) rfl rfl (As := [.int p1]) rfl hl (rest := []) rfl (Nat.le_of_ble_eq_true rfl) (st2 := [.ref (D 1 (3 + 2 * q1))]) rfl dX5_strokeOf_2 ⟨Nat.le_of_ble_eq_true rfl, Nat.le_of_ble_eq_true rfl⟩ (w3 := wB g D R u ts bs ps hs ns) (pm_wi _) (fun H locs X => ?_)
  clear hcl
  refine lv_astore_n (lv' := [(3, .ref (D 1 (3 + 2 * q1))), (0, .ref (D 0 0)), (1, .int p1), (2, .int p2)]) hx hb dX5_strokeOf_5 rfl hl (by decide) rfl (fun ls hl => ?_)
  refine lv_iload_n hx hb dX5_strokeOf_6 rfl (lv_at hl 3 rfl) ?_
  by_cases hc0 : p2 = 0
  · have hm := ifp hc0 hm
    refine lv_tableIn (off := 57) (tgt := 64) hx hb dX5_strokeOf_7 (by rw [hc0]; decide) (by rw [hc0]; decide) (by rw [hc0]; rfl) (by decide) ?_
    refine lv_aload_n hx hb dX5_strokeOf_64 rfl (lv_at hl 0 rfl) ?_
    obtain ⟨hgk, hm⟩ := gd_t hm
    have hgk := of_decide_eq_true hgk
    obtain ⟨r2, hcl, hm⟩ := bnd hm
    refine kVp _ (bs_out hgk) C X (kX3_size l g (sa (D 1) q1) (Sh_st u q1) r2 hcl) (cw_X5_strokeOf_X3_size_91 C) 0 (ci := 3) rfl rfl (As := []) rfl hl (rest := []) rfl (Nat.le_of_ble_eq_true rfl) (st2 := [.int r2]) rfl dX5_strokeOf_65 ⟨Nat.le_of_ble_eq_true rfl, Nat.le_of_ble_eq_true rfl⟩ (w3 := wB g D R u ts bs ps hs ns) (bs_in0 hgk) (fun H locs X => ?_)
    clear hcl
    cases sm hm
    exact kiret C X dX5_strokeOf_68
  · have hm := ifn hc0 hm
    by_cases hc1 : p2 = 1
    · have hm := ifp hc1 hm
      refine lv_tableIn (off := 62) (tgt := 69) hx hb dX5_strokeOf_7 (by rw [hc1]; decide) (by rw [hc1]; decide) (by rw [hc1]; rfl) (by decide) ?_
      refine lv_aload_n hx hb dX5_strokeOf_69 rfl (lv_at hl 0 rfl) ?_
      obtain ⟨hgk, hm⟩ := gd_t hm
      have hgk := of_decide_eq_true hgk
      obtain ⟨r3, hcl, hm⟩ := bnd hm
      refine kVp _ (bs_out hgk) C X (kX3_keptCount l g (sa (D 1) q1) (Sh_st u q1) r3 hcl) (cw_X5_strokeOf_X3_keptCount_157 C) 0 (ci := 3) rfl rfl (As := []) rfl hl (rest := []) rfl (Nat.le_of_ble_eq_true rfl) (st2 := [.int r3]) rfl dX5_strokeOf_70 ⟨Nat.le_of_ble_eq_true rfl, Nat.le_of_ble_eq_true rfl⟩ (w3 := wB g D R u ts bs ps hs ns) (bs_in0 hgk) (fun H locs X => ?_)
      clear hcl
      cases sm hm
      exact kiret C X dX5_strokeOf_73
    · have hm := ifn hc1 hm
      by_cases hc2 : p2 = 2
      · have hm := ifp hc2 hm
        refine lv_tableIn (off := 67) (tgt := 74) hx hb dX5_strokeOf_7 (by rw [hc2]; decide) (by rw [hc2]; decide) (by rw [hc2]; rfl) (by decide) ?_
        refine lv_aload_n hx hb dX5_strokeOf_74 rfl (lv_at hl 1 rfl) ?_
        refine kget C X 0 (ci := 5) rfl rfl hinX5 0 (by decide) hf10 (v := .ref (D 1 0)) rfl dX5_strokeOf_75 ?_
        refine lv_aload_n hx hb dX5_strokeOf_78 rfl (lv_at hl 0 rfl) ?_
        refine lv_iconst (v := 2) hx hb dX5_strokeOf_79 (by decide) ?_
        obtain ⟨r4, hcl, hm⟩ := bnd hm
        refine kVp _ b1_out C X (kX1_countKind l g (D 1) 2 q1 u r4 hcl) (cw_X5_strokeOf_X1_countKind_225 C) 0 (ci := 1) rfl rfl (As := [.ref (D 1 (3 + 2 * q1)), .int 2]) rfl hl (rest := []) rfl (Nat.le_of_ble_eq_true rfl) (st2 := [.int r4]) rfl dX5_strokeOf_80 ⟨Nat.le_of_ble_eq_true rfl, Nat.le_of_ble_eq_true rfl⟩ (w3 := wB g D R u ts bs ps hs ns) (b1_in u) (fun H locs X => ?_)
        clear hcl
        cases sm hm
        exact kiret C X dX5_strokeOf_83
      · have hm := ifn hc2 hm
        by_cases hc3 : p2 = 3
        · have hm := ifp hc3 hm
          refine lv_tableIn (off := 77) (tgt := 84) hx hb dX5_strokeOf_7 (by rw [hc3]; decide) (by rw [hc3]; decide) (by rw [hc3]; rfl) (by decide) ?_
          refine lv_aload_n hx hb dX5_strokeOf_84 rfl (lv_at hl 1 rfl) ?_
          refine kget C X 0 (ci := 5) rfl rfl hinX5 0 (by decide) hf10 (v := .ref (D 1 0)) rfl dX5_strokeOf_85 ?_
          refine lv_aload_n hx hb dX5_strokeOf_88 rfl (lv_at hl 0 rfl) ?_
          refine lv_iconst (v := 4) hx hb dX5_strokeOf_89 (by decide) ?_
          obtain ⟨r5, hcl, hm⟩ := bnd hm
          refine kVp _ b1_out C X (kX1_countKind l g (D 1) 4 q1 u r5 hcl) (cw_X5_strokeOf_X1_countKind_225 C) 0 (ci := 1) rfl rfl (As := [.ref (D 1 (3 + 2 * q1)), .int 4]) rfl hl (rest := []) rfl (Nat.le_of_ble_eq_true rfl) (st2 := [.int r5]) rfl dX5_strokeOf_90 ⟨Nat.le_of_ble_eq_true rfl, Nat.le_of_ble_eq_true rfl⟩ (w3 := wB g D R u ts bs ps hs ns) (b1_in u) (fun H locs X => ?_)
          clear hcl
          cases sm hm
          exact kiret C X dX5_strokeOf_93
        · have hm := ifn hc3 hm
          by_cases hc4 : p2 = 4
          · have hm := ifp hc4 hm
            refine lv_tableIn (off := 87) (tgt := 94) hx hb dX5_strokeOf_7 (by rw [hc4]; decide) (by rw [hc4]; decide) (by rw [hc4]; rfl) (by decide) ?_
            refine lv_aload_n hx hb dX5_strokeOf_94 rfl (lv_at hl 0 rfl) ?_
            obtain ⟨hgk, hm⟩ := gd_t hm
            have hgk := of_decide_eq_true hgk
            obtain ⟨r6, hcl, hm⟩ := bnd hm
            refine kVp _ (bs_out hgk) C X (kX3_keptLength l g (sa (D 1) q1) (Sh_st u q1) r6 hcl) (cw_X5_strokeOf_X3_keptLength_229 C) 0 (ci := 3) rfl rfl (As := []) rfl hl (rest := []) rfl (Nat.le_of_ble_eq_true rfl) (st2 := [.int r6]) rfl dX5_strokeOf_95 ⟨Nat.le_of_ble_eq_true rfl, Nat.le_of_ble_eq_true rfl⟩ (w3 := wB g D R u ts bs ps hs ns) (bs_in0 hgk) (fun H locs X => ?_)
            clear hcl
            cases sm hm
            exact kiret C X dX5_strokeOf_98
          · have hm := ifn hc4 hm
            by_cases hc5 : p2 = 5
            · have hm := ifp hc5 hm
              refine lv_tableIn (off := 92) (tgt := 99) hx hb dX5_strokeOf_7 (by rw [hc5]; decide) (by rw [hc5]; decide) (by rw [hc5]; rfl) (by decide) ?_
              refine lv_aload_n hx hb dX5_strokeOf_99 rfl (lv_at hl 0 rfl) ?_
              refine lv_aload_n hx hb dX5_strokeOf_100 rfl (lv_at hl 0 rfl) ?_
              obtain ⟨hgk, hm⟩ := gd_t hm
              have hgk := of_decide_eq_true hgk
              obtain ⟨r7, hcl, hm⟩ := bnd hm
              refine kVp _ (bs_out hgk) C X (kX3_firstOfGreatestStray l g (sa (D 1) q1) (Sh_st u q1) r7 hcl) (cw_X5_strokeOf_X3_firstOfGreatestStray_232 C) 0 (ci := 3) rfl rfl (As := []) rfl hl (rest := [.ref (D 1 (3 + 2 * q1))]) rfl (Nat.le_of_ble_eq_true rfl) (st2 := [.int r7, .ref (D 1 (3 + 2 * q1))]) rfl dX5_strokeOf_101 ⟨Nat.le_of_ble_eq_true rfl, Nat.le_of_ble_eq_true rfl⟩ (w3 := wB g D R u ts bs ps hs ns) (bs_in0 hgk) (fun H locs X => ?_)
              clear hcl
              obtain ⟨hgk, hm⟩ := gd_t hm
              have hgk := of_decide_eq_true hgk
              obtain ⟨r8, hcl, hm⟩ := bnd hm
              refine kVp _ (bs_out hgk) C X (kX3_stray l g (sa (D 1) q1) r7 (Sh_st u q1) r8 hcl) (cw_X5_strokeOf_X3_stray_220 C) 0 (ci := 3) rfl rfl (As := [.int r7]) rfl hl (rest := []) rfl (Nat.le_of_ble_eq_true rfl) (st2 := [.int r8]) rfl dX5_strokeOf_104 ⟨Nat.le_of_ble_eq_true rfl, Nat.le_of_ble_eq_true rfl⟩ (w3 := wB g D R u ts bs ps hs ns) (bs_in0 hgk) (fun H locs X => ?_)
              clear hcl
              cases sm hm
              exact kiret C X dX5_strokeOf_107
            · have hm := ifn hc5 hm
              by_cases hc6 : p2 = 6
              · have hm := ifp hc6 hm
                refine lv_tableIn (off := 101) (tgt := 108) hx hb dX5_strokeOf_7 (by rw [hc6]; decide) (by rw [hc6]; decide) (by rw [hc6]; rfl) (by decide) ?_
                refine lv_aload_n hx hb dX5_strokeOf_108 rfl (lv_at hl 0 rfl) ?_
                obtain ⟨hgk, hm⟩ := gd_t hm
                have hgk := of_decide_eq_true hgk
                obtain ⟨r9, hcl, hm⟩ := bnd hm
                refine kVp _ (bs_out hgk) C X (kX3_firstOfGreatestStray l g (sa (D 1) q1) (Sh_st u q1) r9 hcl) (cw_X5_strokeOf_X3_firstOfGreatestStray_232 C) 0 (ci := 3) rfl rfl (As := []) rfl hl (rest := []) rfl (Nat.le_of_ble_eq_true rfl) (st2 := [.int r9]) rfl dX5_strokeOf_109 ⟨Nat.le_of_ble_eq_true rfl, Nat.le_of_ble_eq_true rfl⟩ (w3 := wB g D R u ts bs ps hs ns) (bs_in0 hgk) (fun H locs X => ?_)
                clear hcl
                cases sm hm
                exact kiret C X dX5_strokeOf_112
              · have hm := ifn hc6 hm
                by_cases hc7 : p2 = 7
                · have hm := ifp hc7 hm
                  refine lv_tableIn (off := 106) (tgt := 113) hx hb dX5_strokeOf_7 (by rw [hc7]; decide) (by rw [hc7]; decide) (by rw [hc7]; rfl) (by decide) ?_
                  refine lv_aload_n hx hb dX5_strokeOf_113 rfl (lv_at hl 0 rfl) ?_
                  obtain ⟨hgk, hm⟩ := gd_t hm
                  have hgk := of_decide_eq_true hgk
                  obtain ⟨r10, hcl, hm⟩ := bnd hm
                  refine kVp _ (bs_out hgk) C X (kX3_spanX l g (sa (D 1) q1) (Sh_st u q1) r10 hcl) (cw_X5_strokeOf_X3_spanX_235 C) 0 (ci := 3) rfl rfl (As := []) rfl hl (rest := []) rfl (Nat.le_of_ble_eq_true rfl) (st2 := [.int r10]) rfl dX5_strokeOf_114 ⟨Nat.le_of_ble_eq_true rfl, Nat.le_of_ble_eq_true rfl⟩ (w3 := wB g D R u ts bs ps hs ns) (bs_in0 hgk) (fun H locs X => ?_)
                  clear hcl
                  cases sm hm
                  exact kiret C X dX5_strokeOf_117
                · have hm := ifn hc7 hm
                  by_cases hc8 : p2 = 8
                  · have hm := ifp hc8 hm
                    refine lv_tableIn (off := 111) (tgt := 118) hx hb dX5_strokeOf_7 (by rw [hc8]; decide) (by rw [hc8]; decide) (by rw [hc8]; rfl) (by decide) ?_
                    refine lv_aload_n hx hb dX5_strokeOf_118 rfl (lv_at hl 0 rfl) ?_
                    obtain ⟨hgk, hm⟩ := gd_t hm
                    have hgk := of_decide_eq_true hgk
                    obtain ⟨r11, hcl, hm⟩ := bnd hm
                    refine kVp _ (bs_out hgk) C X (kX3_spanY l g (sa (D 1) q1) (Sh_st u q1) r11 hcl) (cw_X5_strokeOf_X3_spanY_238 C) 0 (ci := 3) rfl rfl (As := []) rfl hl (rest := []) rfl (Nat.le_of_ble_eq_true rfl) (st2 := [.int r11]) rfl dX5_strokeOf_119 ⟨Nat.le_of_ble_eq_true rfl, Nat.le_of_ble_eq_true rfl⟩ (w3 := wB g D R u ts bs ps hs ns) (bs_in0 hgk) (fun H locs X => ?_)
                    clear hcl
                    cases sm hm
                    exact kiret C X dX5_strokeOf_122
                  · have hm := ifn hc8 hm
                    by_cases hc9 : p2 = 9
                    · have hm := ifp hc9 hm
                      refine lv_tableIn (off := 116) (tgt := 123) hx hb dX5_strokeOf_7 (by rw [hc9]; decide) (by rw [hc9]; decide) (by rw [hc9]; rfl) (by decide) ?_
                      refine lv_aload_n hx hb dX5_strokeOf_123 rfl (lv_at hl 0 rfl) ?_
                      refine lv_aload_n hx hb dX5_strokeOf_124 rfl (lv_at hl 1 rfl) ?_
                      refine kget C X 0 (ci := 5) rfl rfl hinX5 0 (by decide) hf10 (v := .ref (D 1 0)) rfl dX5_strokeOf_125 ?_
                      refine lv_iconst (v := 3) hx hb dX5_strokeOf_128 (by decide) ?_
                      obtain ⟨r12, hcl, hm⟩ := bnd hm
                      refine kVp _ b1_out C X (kX1_value l g (D 1) 3 u r12 hcl) (cw_X5_strokeOf_X1_value_147 C) 0 (ci := 1) rfl rfl (As := [.int 3]) rfl hl (rest := [.ref (D 1 (3 + 2 * q1))]) rfl (Nat.le_of_ble_eq_true rfl) (st2 := [.int r12, .ref (D 1 (3 + 2 * q1))]) rfl dX5_strokeOf_129 ⟨Nat.le_of_ble_eq_true rfl, Nat.le_of_ble_eq_true rfl⟩ (w3 := wB g D R u ts bs ps hs ns) (b1_in u) (fun H locs X => ?_)
                      clear hcl
                      obtain ⟨hgk, hm⟩ := gd_t hm
                      have hgk := of_decide_eq_true hgk
                      obtain ⟨r13, hcl, hm⟩ := bnd hm
                      refine kVp _ (bs_out hgk) C X (kX3_sharpJoins l g (sa (D 1) q1) r12 (Sh_st u q1) r13 hcl) (cw_X5_strokeOf_X3_sharpJoins_241 C) 0 (ci := 3) rfl rfl (As := [.int r12]) rfl hl (rest := []) rfl (Nat.le_of_ble_eq_true rfl) (st2 := [.int r13]) rfl dX5_strokeOf_132 ⟨Nat.le_of_ble_eq_true rfl, Nat.le_of_ble_eq_true rfl⟩ (w3 := wB g D R u ts bs ps hs ns) (bs_in0 hgk) (fun H locs X => ?_)
                      clear hcl
                      cases sm hm
                      exact kiret C X dX5_strokeOf_135
                    · have hm := ifn hc9 hm
                      by_cases hc10 : p2 = 10
                      · have hm := ifp hc10 hm
                        refine lv_tableIn (off := 129) (tgt := 136) hx hb dX5_strokeOf_7 (by rw [hc10]; decide) (by rw [hc10]; decide) (by rw [hc10]; rfl) (by decide) ?_
                        refine lv_aload_n hx hb dX5_strokeOf_136 rfl (lv_at hl 0 rfl) ?_
                        obtain ⟨hgk, hm⟩ := gd_t hm
                        have hgk := of_decide_eq_true hgk
                        obtain ⟨r14, hcl, hm⟩ := bnd hm
                        refine kVp _ (bs_out hgk) C X (kX3_kept l g (sa (D 1) q1) (Sh_st u q1) r14 hcl) (cw_X5_strokeOf_X3_kept_244 C) 0 (ci := 3) rfl rfl (As := []) rfl hl (rest := []) rfl (Nat.le_of_ble_eq_true rfl) (st2 := [.int r14]) rfl dX5_strokeOf_137 ⟨Nat.le_of_ble_eq_true rfl, Nat.le_of_ble_eq_true rfl⟩ (w3 := wB g D R u ts bs ps hs ns) (bs_in0 hgk) (fun H locs X => ?_)
                        clear hcl
                        cases sm hm
                        exact kiret C X dX5_strokeOf_140
                      · have hm := ifn hc10 hm
                        refine lv_tableOut (tgt := 141) hx hb dX5_strokeOf_7 (tb_out11 hc0 hc1 hc2 hc3 hc4 hc5 hc6 hc7 hc8 hc9 hc10) (by decide) ?_
                        cases hm
-- X5 BrushStrokes.crossings(I)I
abbrev rX5_crossings : Room := { frames := 6, cells := 0, slots := 0, locals := 143 }
theorem cw_X5_crossings_X5_existingStroke_87 {p : Program} {s : State} {m : MethodId} {args : Array Value} {meth : Method} {c : Code} {g : kG} {A : Nat → Prop} (C : CT g p s m args meth c RX5 cX5_crossings 2 (some .int) wsX5_crossings A) : CallW rX5_crossings s args RX5 RX5 87 yX5_existingStroke cX5_existingStroke 2 (some (.object "BrushStrokes$Stroke")) wsX5_existingStroke rX5_existingStrokeN 0 0 1 := cwV 1 C.2.2.2.2.2.1 gX5_crossings_X5_existingStroke rfl rfl rfl (by decide +kernel) ⟨Nat.le_of_ble_eq_true rfl, Nat.le_of_ble_eq_true rfl⟩
theorem cw_X5_crossings_X3_countCrossings_252 {p : Program} {s : State} {m : MethodId} {args : Array Value} {meth : Method} {c : Code} {g : kG} {A : Nat → Prop} (C : CT g p s m args meth c RX5 cX5_crossings 2 (some .int) wsX5_crossings A) : CallW rX5_crossings s args RX5 RX3 252 yX3_countCrossings cX3_countCrossings 3 (some .int) wsX3_countCrossings rX3_countCrossings 0 0 0 := cwV 0 C.2.2.2.2.2.1 gX5_crossings_X3_countCrossings rfl rfl rfl (by decide +kernel) ⟨Nat.le_of_ble_eq_true rfl, Nat.le_of_ble_eq_true rfl⟩
noncomputable def fX5_crossings (p1 : Int32) (u : ShS) : Option (Int32) := (fX5_existingStrokeN p1 u).bind fun q1 => gd (decide (q1 < 5)) ((fX3_countCrossings (Sh_st u q1)).bind fun r2 => some r2)
set_option maxRecDepth 100000 in
set_option maxHeartbeats 4000000 in
theorem kX5_crossings (l : Launch) (g : kG) (D : Nat → Nat → Nat) (R : kAd) (p1 : Int32) (u : ShS) (ts : TS) (bs : SS) (ps : PS) (hs : HS) (ns : NS) (o1 : Int32) (hm : fX5_crossings p1 u = some o1) : KM l yX5_crossings wsX5_crossings rX5_crossings g [.ref (D 0 0), .int p1] (wB g D R u ts bs ps hs ns) (some (.int o1)) (wB g D R u ts bs ps hs ns) 0 0 := by
  refine KM.of (nL := 2) (by decide) rfl (Nat.le_of_ble_eq_true rfl) ?_
  intro p e s m args below meth c A ls C X hl
  have C : CT g p s m args meth c RX5 cX5_crossings 2 (some .int) wsX5_crossings A := C
  have hx := C.1
  have hb := C.2.1
  have hl : lv_has ls 2 [(0, .ref (D 0 0)), (1, .int p1)] := hl
  rw [fX5_crossings] at hm
  refine lv_aload_n hx hb dX5_crossings_0 rfl (lv_at hl 0 rfl) ?_
  refine lv_iload_n hx hb dX5_crossings_1 rfl (lv_at hl 1 rfl) ?_
  obtain ⟨q1, hcl, hm⟩ := bnd hm
  refine kVp _ (pm_wh _) C X (kX5_existingStrokeN l g D R p1 u ts bs ps hs ns q1 hcl) (cw_X5_crossings_X5_existingStroke_87 C) 0 (ci := 5) rfl rfl (As := [.int p1]) rfl hl (rest := []) rfl (Nat.le_of_ble_eq_true rfl) (st2 := [.ref (D 1 (3 + 2 * q1))]) rfl dX5_crossings_2 ⟨Nat.le_of_ble_eq_true rfl, Nat.le_of_ble_eq_true rfl⟩ (w3 := wB g D R u ts bs ps hs ns) (pm_wi _) (fun H locs X => ?_)
  clear hcl
  obtain ⟨hgk, hm⟩ := gd_t hm
  have hgk := of_decide_eq_true hgk
  obtain ⟨r2, hcl, hm⟩ := bnd hm
  refine kVp _ (bs_out hgk) C X (kX3_countCrossings l g (sa (D 1) q1) (Sh_st u q1) r2 hcl) (cw_X5_crossings_X3_countCrossings_252 C) 0 (ci := 3) rfl rfl (As := []) rfl hl (rest := []) rfl (Nat.le_of_ble_eq_true rfl) (st2 := [.int r2]) rfl dX5_crossings_5 ⟨Nat.le_of_ble_eq_true rfl, Nat.le_of_ble_eq_true rfl⟩ (w3 := wB g D R u ts bs ps hs ns) (bs_in0 hgk) (fun H locs X => ?_)
  clear hcl
  cases sm hm
  exact kiret C X dX5_crossings_8
-- X5 BrushStrokes.setting(I)I
abbrev rX5_setting : Room := { frames := 2, cells := 0, slots := 0, locals := 42 }
theorem fl_X5_setting_10 : (Cond.fieldLink RX5 10 "BrushStrokes" "sheet" "LBrushStrokes$Sheet;") ∈ wsX5_setting := by decide +kernel
theorem in_X5_setting_X5 : ∀ w ∈ u_ws RX5 TX5 5, w ∈ wsX5_setting := by decide +kernel
theorem cw_X5_setting_X5_requireSetting_166 {p : Program} {s : State} {m : MethodId} {args : Array Value} {meth : Method} {c : Code} {g : kG} {A : Nat → Prop} (C : CT g p s m args meth c RX5 cX5_setting 2 (some .int) wsX5_setting A) : CallB rX5_setting s args RX5 166 yX5_requireSetting cX5_requireSetting 1 none wsX5_requireSetting rX5_requireSettingN 0 0 1 ∧ (Cond.static yX5_requireSetting).before args s = true := va_cwS 1 C.2.2.2.2.2.1 gX5_setting_X5_requireSetting rfl rfl rfl (by decide +kernel) ⟨Nat.le_of_ble_eq_true rfl, Nat.le_of_ble_eq_true rfl⟩
theorem cw_X5_setting_X1_value_147 {p : Program} {s : State} {m : MethodId} {args : Array Value} {meth : Method} {c : Code} {g : kG} {A : Nat → Prop} (C : CT g p s m args meth c RX5 cX5_setting 2 (some .int) wsX5_setting A) : CallW rX5_setting s args RX5 RX1 147 yX1_value cX1_value 2 (some .int) wsX1_value rX1_value 0 0 1 := cwV 1 C.2.2.2.2.2.1 gX5_setting_X1_value rfl rfl rfl (by decide +kernel) ⟨Nat.le_of_ble_eq_true rfl, Nat.le_of_ble_eq_true rfl⟩
noncomputable def fX5_setting (p1 : Int32) (u : ShS) : Option (Int32) := (fX5_requireSettingN p1).bind fun _ => (fX1_value p1 u).bind fun r1 => some r1
set_option maxRecDepth 100000 in
set_option maxHeartbeats 4000000 in
theorem kX5_setting (l : Launch) (g : kG) (D : Nat → Nat → Nat) (R : kAd) (p1 : Int32) (u : ShS) (ts : TS) (bs : SS) (ps : PS) (hs : HS) (ns : NS) (o1 : Int32) (hm : fX5_setting p1 u = some o1) : KM l yX5_setting wsX5_setting rX5_setting g [.ref (D 0 0), .int p1] (wB g D R u ts bs ps hs ns) (some (.int o1)) (wB g D R u ts bs ps hs ns) 0 0 := by
  refine KM.of (nL := 2) (by decide) rfl (Nat.le_of_ble_eq_true rfl) ?_
  intro p e s m args below meth c A ls C X hl
  have C : CT g p s m args meth c RX5 cX5_setting 2 (some .int) wsX5_setting A := C
  have hx := C.1
  have hb := C.2.1
  have hl : lv_has ls 2 [(0, .ref (D 0 0)), (1, .int p1)] := hl
  have hinX5 := in_X5_setting_X5
  have hf10 := C.2.2.2.2.2.1 _ fl_X5_setting_10
  rw [fX5_setting] at hm
  refine lv_iload_n hx hb dX5_setting_0 rfl (lv_at hl 1 rfl) ?_
  obtain ⟨⟨⟩, hcl, hm⟩ := bnd hm
  refine kS0c C X (kX5_requireSettingN l g p1  hcl) (cw_X5_setting_X5_requireSetting_166 C) (As := [.int p1]) rfl hl (rest := []) rfl (Nat.le_of_ble_eq_true rfl) (st2 := []) rfl dX5_setting_1 ⟨Nat.le_of_ble_eq_true rfl, Nat.le_of_ble_eq_true rfl⟩ (fun H locs X => ?_)
  clear hcl
  refine lv_aload_n hx hb dX5_setting_4 rfl (lv_at hl 0 rfl) ?_
  refine kget C X 0 (ci := 5) rfl rfl hinX5 0 (by decide) hf10 (v := .ref (D 1 0)) rfl dX5_setting_5 ?_
  refine lv_iload_n hx hb dX5_setting_8 rfl (lv_at hl 1 rfl) ?_
  obtain ⟨r1, hcl, hm⟩ := bnd hm
  refine kVp _ b1_out C X (kX1_value l g (D 1) p1 u r1 hcl) (cw_X5_setting_X1_value_147 C) 0 (ci := 1) rfl rfl (As := [.int p1]) rfl hl (rest := []) rfl (Nat.le_of_ble_eq_true rfl) (st2 := [.int r1]) rfl dX5_setting_9 ⟨Nat.le_of_ble_eq_true rfl, Nat.le_of_ble_eq_true rfl⟩ (w3 := wB g D R u ts bs ps hs ns) (b1_in u) (fun H locs X => ?_)
  clear hcl
  cases sm hm
  exact kiret C X dX5_setting_12
-- X5 BrushStrokes.ifSimplified(III)I
abbrev rX5_ifSimplified : Room := { frames := 6, cells := 0, slots := 0, locals := 164 }
theorem fl_X5_ifSimplified_10 : (Cond.fieldLink RX5 10 "BrushStrokes" "sheet" "LBrushStrokes$Sheet;") ∈ wsX5_ifSimplified := by decide +kernel
theorem fl_X5_ifSimplified_37 : (Cond.fieldLink RX5 37 "BrushStrokes" "simplifier" "LBrushStrokes$Simplifier;") ∈ wsX5_ifSimplified := by decide +kernel
theorem in_X5_ifSimplified_X5 : ∀ w ∈ u_ws RX5 TX5 5, w ∈ wsX5_ifSimplified := by decide +kernel
theorem cw_X5_ifSimplified_X5_requireBetween_180 {p : Program} {s : State} {m : MethodId} {args : Array Value} {meth : Method} {c : Code} {g : kG} {A : Nat → Prop} (C : CT g p s m args meth c RX5 cX5_ifSimplified 5 (some .int) wsX5_ifSimplified A) : CallB rX5_ifSimplified s args RX5 180 yX5_requireBetween cX5_requireBetween 3 none wsX5_requireBetween rX5_requireBetweenN 0 0 3 ∧ (Cond.static yX5_requireBetween).before args s = true := va_cwS 3 C.2.2.2.2.2.1 gX5_ifSimplified_X5_requireBetween rfl rfl rfl (by decide +kernel) ⟨Nat.le_of_ble_eq_true rfl, Nat.le_of_ble_eq_true rfl⟩
theorem cw_X5_ifSimplified_X5_requireWay_140 {p : Program} {s : State} {m : MethodId} {args : Array Value} {meth : Method} {c : Code} {g : kG} {A : Nat → Prop} (C : CT g p s m args meth c RX5 cX5_ifSimplified 5 (some .int) wsX5_ifSimplified A) : CallB rX5_ifSimplified s args RX5 140 yX5_requireWay cX5_requireWay 1 none wsX5_requireWay rX5_requireWayN 0 0 1 ∧ (Cond.static yX5_requireWay).before args s = true := va_cwS 1 C.2.2.2.2.2.1 gX5_ifSimplified_X5_requireWay rfl rfl rfl (by decide +kernel) ⟨Nat.le_of_ble_eq_true rfl, Nat.le_of_ble_eq_true rfl⟩
theorem cw_X5_ifSimplified_X5_existingStroke_87 {p : Program} {s : State} {m : MethodId} {args : Array Value} {meth : Method} {c : Code} {g : kG} {A : Nat → Prop} (C : CT g p s m args meth c RX5 cX5_ifSimplified 5 (some .int) wsX5_ifSimplified A) : CallW rX5_ifSimplified s args RX5 RX5 87 yX5_existingStroke cX5_existingStroke 2 (some (.object "BrushStrokes$Stroke")) wsX5_existingStroke rX5_existingStrokeN 0 0 1 := cwV 1 C.2.2.2.2.2.1 gX5_ifSimplified_X5_existingStroke rfl rfl rfl (by decide +kernel) ⟨Nat.le_of_ble_eq_true rfl, Nat.le_of_ble_eq_true rfl⟩
theorem cw_X5_ifSimplified_X1_fixedPoints_143 {p : Program} {s : State} {m : MethodId} {args : Array Value} {meth : Method} {c : Code} {g : kG} {A : Nat → Prop} (C : CT g p s m args meth c RX5 cX5_ifSimplified 5 (some .int) wsX5_ifSimplified A) : CallW rX5_ifSimplified s args RX5 RX1 143 yX1_fixedPoints cX1_fixedPoints 4 (some .int) wsX1_fixedPoints rX1_fixedPoints 0 0 1 := cwV 1 C.2.2.2.2.2.1 gX5_ifSimplified_X1_fixedPoints rfl rfl rfl (by decide +kernel) ⟨Nat.le_of_ble_eq_true rfl, Nat.le_of_ble_eq_true rfl⟩
theorem cw_X5_ifSimplified_X2_keptPoints_150 {p : Program} {s : State} {m : MethodId} {args : Array Value} {meth : Method} {c : Code} {g : kG} {A : Nat → Prop} (C : CT g p s m args meth c RX5 cX5_ifSimplified 5 (some .int) wsX5_ifSimplified A) : CallW rX5_ifSimplified s args RX5 RX2 150 yX2_keptPoints cX2_keptPoints 5 (some .int) wsX2_keptPoints rX2_keptPoints 0 0 4 := cwV 4 C.2.2.2.2.2.1 gX5_ifSimplified_X2_keptPoints rfl rfl rfl (by decide +kernel) ⟨Nat.le_of_ble_eq_true rfl, Nat.le_of_ble_eq_true rfl⟩
theorem cw_X5_ifSimplified_J6_bitCount_0f7a4_273 {p : Program} {s : State} {m : MethodId} {args : Array Value} {meth : Method} {c : Code} {g : kG} {A : Nat → Prop} (C : CT g p s m args meth c RX5 cX5_ifSimplified 5 (some .int) wsX5_ifSimplified A) : CallB rX5_ifSimplified s args RX5 273 yJ6_bitCount_0f7a4 cJ6_bitCount_0f7a4 1 (some .int) wsJ6_bitCount_0f7a4 rJ6_bitCount_0f7a4 0 0 1 ∧ (Cond.static yJ6_bitCount_0f7a4).before args s = true := va_cwS 1 C.2.2.2.2.2.1 gX5_ifSimplified_J6_bitCount_0f7a4 rfl rfl rfl (by decide +kernel) ⟨Nat.le_of_ble_eq_true rfl, Nat.le_of_ble_eq_true rfl⟩
noncomputable def fX5_ifSimplified (p1 : Int32) (p2 : Int32) (p3 : Int32) (u : ShS) (ps : PS) : Option (Int32 × PS) := (fX5_existingStrokeN p1 u).bind fun q1 => (fX5_requireBetweenN p2 0 50).bind fun _ => (fX5_requireWayN p3).bind fun _ => (fX1_fixedPoints q1 u).bind fun r2 => gd (decide (q1 < 5)) ((fX2_keptPoints r2 p2 p3 ps (Sh_st u q1)).bind fun (r3, s4) => (fJ6_bitCount_0f7a4 r3).bind fun r5 => some (r5, s4))
set_option maxRecDepth 100000 in
set_option maxHeartbeats 4000000 in
theorem kX5_ifSimplified (l : Launch) (g : kG) (D : Nat → Nat → Nat) (R : kAd) (p1 : Int32) (p2 : Int32) (p3 : Int32) (u : ShS) (ts : TS) (bs : SS) (ps : PS) (hs : HS) (ns : NS) (o1 : Int32) (o2 : PS) (hm : fX5_ifSimplified p1 p2 p3 u ps = some (o1, o2)) : KM l yX5_ifSimplified wsX5_ifSimplified rX5_ifSimplified g [.ref (D 0 0), .int p1, .int p2, .int p3] (wB g D R u ts bs ps hs ns) (some (.int o1)) (wB g D R u ts bs o2 hs ns) 0 0 := by
  refine KM.of (nL := 5) (by decide) rfl (Nat.le_of_ble_eq_true rfl) ?_
  intro p e s m args below meth c A ls C X hl
  have C : CT g p s m args meth c RX5 cX5_ifSimplified 5 (some .int) wsX5_ifSimplified A := C
  have hx := C.1
  have hb := C.2.1
  have hl : lv_has ls 5 [(0, .ref (D 0 0)), (1, .int p1), (2, .int p2), (3, .int p3)] := hl
  have hinX5 := in_X5_ifSimplified_X5
  have hf10 := C.2.2.2.2.2.1 _ fl_X5_ifSimplified_10
  have hf37 := C.2.2.2.2.2.1 _ fl_X5_ifSimplified_37
  rw [fX5_ifSimplified] at hm
  refine lv_aload_n hx hb dX5_ifSimplified_0 rfl (lv_at hl 0 rfl) ?_
  refine lv_iload_n hx hb dX5_ifSimplified_1 rfl (lv_at hl 1 rfl) ?_
  obtain ⟨q1, hcl, hm⟩ := bnd hm
  refine kVp _ (pm_wh _) C X (kX5_existingStrokeN l g D R p1 u ts bs ps hs ns q1 hcl) (cw_X5_ifSimplified_X5_existingStroke_87 C) 0 (ci := 5) rfl rfl (As := [.int p1]) rfl hl (rest := []) rfl (Nat.le_of_ble_eq_true rfl) (st2 := [.ref (D 1 (3 + 2 * q1))]) rfl dX5_ifSimplified_2 ⟨Nat.le_of_ble_eq_true rfl, Nat.le_of_ble_eq_true rfl⟩ (w3 := wB g D R u ts bs ps hs ns) (pm_wi _) (fun H locs X => ?_)
  clear hcl
  refine lv_astore (lv' := [(4, .ref (D 1 (3 + 2 * q1))), (0, .ref (D 0 0)), (1, .int p1), (2, .int p2), (3, .int p3)]) hx hb dX5_ifSimplified_5 hl (by decide) rfl (fun ls hl => ?_)
  refine lv_iload_n hx hb dX5_ifSimplified_7 rfl (lv_at hl 3 rfl) ?_
  refine lv_iconst (v := 0) hx hb dX5_ifSimplified_8 (by decide) ?_
  refine lv_bipush (v := 50) hx hb dX5_ifSimplified_9 (by decide) ?_
  obtain ⟨⟨⟩, hcl, hm⟩ := bnd hm
  refine kS0c C X (kX5_requireBetweenN l g p2 0 50  hcl) (cw_X5_ifSimplified_X5_requireBetween_180 C) (As := [.int p2, .int 0, .int 50]) rfl hl (rest := []) rfl (Nat.le_of_ble_eq_true rfl) (st2 := []) rfl dX5_ifSimplified_11 ⟨Nat.le_of_ble_eq_true rfl, Nat.le_of_ble_eq_true rfl⟩ (fun H locs X => ?_)
  clear hcl
  refine lv_iload_n hx hb dX5_ifSimplified_14 rfl (lv_at hl 4 rfl) ?_
  obtain ⟨⟨⟩, hcl, hm⟩ := bnd hm
  refine kS0c C X (kX5_requireWayN l g p3  hcl) (cw_X5_ifSimplified_X5_requireWay_140 C) (As := [.int p3]) rfl hl (rest := []) rfl (Nat.le_of_ble_eq_true rfl) (st2 := []) rfl dX5_ifSimplified_15 ⟨Nat.le_of_ble_eq_true rfl, Nat.le_of_ble_eq_true rfl⟩ (fun H locs X => ?_)
  clear hcl
  refine lv_aload_n hx hb dX5_ifSimplified_18 rfl (lv_at hl 1 rfl) ?_
  refine kget C X 0 (ci := 5) rfl rfl hinX5 4 (by decide) hf37 (v := .ref (D 4 0)) rfl dX5_ifSimplified_19 ?_
  refine lv_aload hx hb dX5_ifSimplified_22 (lv_at hl 0 rfl) ?_
  refine lv_aload_n hx hb dX5_ifSimplified_24 rfl (lv_at hl 1 rfl) ?_
  refine kget C X 0 (ci := 5) rfl rfl hinX5 0 (by decide) hf10 (v := .ref (D 1 0)) rfl dX5_ifSimplified_25 ?_
  refine lv_aload hx hb dX5_ifSimplified_28 (lv_at hl 0 rfl) ?_
  obtain ⟨r2, hcl, hm⟩ := bnd hm
  refine kVp _ b1_out C X (kX1_fixedPoints l g (D 1) q1 u r2 hcl) (cw_X5_ifSimplified_X1_fixedPoints_143 C) 0 (ci := 1) rfl rfl (As := [.ref (D 1 (3 + 2 * q1))]) rfl hl (rest := [.ref (D 1 (3 + 2 * q1)), .ref (D 4 0)]) rfl (Nat.le_of_ble_eq_true rfl) (st2 := [.int r2, .ref (D 1 (3 + 2 * q1)), .ref (D 4 0)]) rfl dX5_ifSimplified_30 ⟨Nat.le_of_ble_eq_true rfl, Nat.le_of_ble_eq_true rfl⟩ (w3 := wB g D R u ts bs ps hs ns) (b1_in u) (fun H locs X => ?_)
  clear hcl
  refine lv_iload_n hx hb dX5_ifSimplified_33 rfl (lv_at hl 3 rfl) ?_
  refine lv_iload_n hx hb dX5_ifSimplified_34 rfl (lv_at hl 4 rfl) ?_
  obtain ⟨hgk, hm⟩ := gd_t hm
  have hgk := of_decide_eq_true hgk
  obtain ⟨⟨r3, s4⟩, hcl, hm⟩ := bnd hm
  refine kVp _ (bp_out hgk) C X (kX2_keptPoints l g (D 4) (sa (D 1) q1) r2 p2 p3 ps (Sh_st u q1) r3 s4 hcl) (cw_X5_ifSimplified_X2_keptPoints_150 C) 0 (ci := 2) rfl rfl (As := [.ref (D 1 (3 + 2 * q1)), .int r2, .int p2, .int p3]) rfl hl (rest := []) rfl (Nat.le_of_ble_eq_true rfl) (st2 := [.int r3]) rfl dX5_ifSimplified_35 ⟨Nat.le_of_ble_eq_true rfl, Nat.le_of_ble_eq_true rfl⟩ (w3 := wB g D R u ts bs s4 hs ns) (bp_in0 hgk s4) (fun H locs X => ?_)
  clear hcl
  obtain ⟨r5, hcl, hm⟩ := bnd hm
  refine kS0c C X (kJ6_bitCount_0f7a4 l g r3 r5 hcl) (cw_X5_ifSimplified_J6_bitCount_0f7a4_273 C) (As := [.int r3]) rfl hl (rest := []) rfl (Nat.le_of_ble_eq_true rfl) (st2 := [.int r5]) rfl dX5_ifSimplified_38 ⟨Nat.le_of_ble_eq_true rfl, Nat.le_of_ble_eq_true rfl⟩ (fun H locs X => ?_)
  clear hcl
  cases sm hm
  exact kiret C X dX5_ifSimplified_41
-- X5 BrushStrokes.leastBound(III)I
abbrev rX5_leastBound : Room := { frames := 6, cells := 0, slots := 0, locals := 166 }
theorem fl_X5_leastBound_10 : (Cond.fieldLink RX5 10 "BrushStrokes" "sheet" "LBrushStrokes$Sheet;") ∈ wsX5_leastBound := by decide +kernel
theorem fl_X5_leastBound_37 : (Cond.fieldLink RX5 37 "BrushStrokes" "simplifier" "LBrushStrokes$Simplifier;") ∈ wsX5_leastBound := by decide +kernel
theorem in_X5_leastBound_X5 : ∀ w ∈ u_ws RX5 TX5 5, w ∈ wsX5_leastBound := by decide +kernel
theorem cw_X5_leastBound_X5_requireBetween_180 {p : Program} {s : State} {m : MethodId} {args : Array Value} {meth : Method} {c : Code} {g : kG} {A : Nat → Prop} (C : CT g p s m args meth c RX5 cX5_leastBound 5 (some .int) wsX5_leastBound A) : CallB rX5_leastBound s args RX5 180 yX5_requireBetween cX5_requireBetween 3 none wsX5_requireBetween rX5_requireBetweenN 0 0 3 ∧ (Cond.static yX5_requireBetween).before args s = true := va_cwS 3 C.2.2.2.2.2.1 gX5_leastBound_X5_requireBetween rfl rfl rfl (by decide +kernel) ⟨Nat.le_of_ble_eq_true rfl, Nat.le_of_ble_eq_true rfl⟩
theorem cw_X5_leastBound_X5_requireWay_140 {p : Program} {s : State} {m : MethodId} {args : Array Value} {meth : Method} {c : Code} {g : kG} {A : Nat → Prop} (C : CT g p s m args meth c RX5 cX5_leastBound 5 (some .int) wsX5_leastBound A) : CallB rX5_leastBound s args RX5 140 yX5_requireWay cX5_requireWay 1 none wsX5_requireWay rX5_requireWayN 0 0 1 ∧ (Cond.static yX5_requireWay).before args s = true := va_cwS 1 C.2.2.2.2.2.1 gX5_leastBound_X5_requireWay rfl rfl rfl (by decide +kernel) ⟨Nat.le_of_ble_eq_true rfl, Nat.le_of_ble_eq_true rfl⟩
theorem cw_X5_leastBound_X5_existingStroke_87 {p : Program} {s : State} {m : MethodId} {args : Array Value} {meth : Method} {c : Code} {g : kG} {A : Nat → Prop} (C : CT g p s m args meth c RX5 cX5_leastBound 5 (some .int) wsX5_leastBound A) : CallW rX5_leastBound s args RX5 RX5 87 yX5_existingStroke cX5_existingStroke 2 (some (.object "BrushStrokes$Stroke")) wsX5_existingStroke rX5_existingStrokeN 0 0 1 := cwV 1 C.2.2.2.2.2.1 gX5_leastBound_X5_existingStroke rfl rfl rfl (by decide +kernel) ⟨Nat.le_of_ble_eq_true rfl, Nat.le_of_ble_eq_true rfl⟩
theorem cw_X5_leastBound_X1_fixedPoints_143 {p : Program} {s : State} {m : MethodId} {args : Array Value} {meth : Method} {c : Code} {g : kG} {A : Nat → Prop} (C : CT g p s m args meth c RX5 cX5_leastBound 5 (some .int) wsX5_leastBound A) : CallW rX5_leastBound s args RX5 RX1 143 yX1_fixedPoints cX1_fixedPoints 4 (some .int) wsX1_fixedPoints rX1_fixedPoints 0 0 1 := cwV 1 C.2.2.2.2.2.1 gX5_leastBound_X1_fixedPoints rfl rfl rfl (by decide +kernel) ⟨Nat.le_of_ble_eq_true rfl, Nat.le_of_ble_eq_true rfl⟩
theorem cw_X5_leastBound_X2_leastBoundFor_278 {p : Program} {s : State} {m : MethodId} {args : Array Value} {meth : Method} {c : Code} {g : kG} {A : Nat → Prop} (C : CT g p s m args meth c RX5 cX5_leastBound 5 (some .int) wsX5_leastBound A) : CallW rX5_leastBound s args RX5 RX2 278 yX2_leastBoundFor cX2_leastBoundFor 7 (some .int) wsX2_leastBoundFor rX2_leastBoundFor 0 0 4 := cwV 4 C.2.2.2.2.2.1 gX5_leastBound_X2_leastBoundFor rfl rfl rfl (by decide +kernel) ⟨Nat.le_of_ble_eq_true rfl, Nat.le_of_ble_eq_true rfl⟩
noncomputable def fX5_leastBound (p1 : Int32) (p2 : Int32) (p3 : Int32) (u : ShS) (ps : PS) : Option (Int32 × PS) := (fX5_existingStrokeN p1 u).bind fun q1 => (fX5_requireBetweenN p2 2 24).bind fun _ => (fX5_requireWayN p3).bind fun _ => (fX1_fixedPoints q1 u).bind fun r2 => gd (decide (q1 < 5)) ((fX2_leastBoundFor r2 p2 p3 ps (Sh_st u q1)).bind fun (r3, s4) => some (r3, s4))
set_option maxRecDepth 100000 in
set_option maxHeartbeats 4000000 in
theorem kX5_leastBound (l : Launch) (g : kG) (D : Nat → Nat → Nat) (R : kAd) (p1 : Int32) (p2 : Int32) (p3 : Int32) (u : ShS) (ts : TS) (bs : SS) (ps : PS) (hs : HS) (ns : NS) (o1 : Int32) (o2 : PS) (hm : fX5_leastBound p1 p2 p3 u ps = some (o1, o2)) : KM l yX5_leastBound wsX5_leastBound rX5_leastBound g [.ref (D 0 0), .int p1, .int p2, .int p3] (wB g D R u ts bs ps hs ns) (some (.int o1)) (wB g D R u ts bs o2 hs ns) 0 0 := by
  refine KM.of (nL := 5) (by decide) rfl (Nat.le_of_ble_eq_true rfl) ?_
  intro p e s m args below meth c A ls C X hl
  have C : CT g p s m args meth c RX5 cX5_leastBound 5 (some .int) wsX5_leastBound A := C
  have hx := C.1
  have hb := C.2.1
  have hl : lv_has ls 5 [(0, .ref (D 0 0)), (1, .int p1), (2, .int p2), (3, .int p3)] := hl
  have hinX5 := in_X5_leastBound_X5
  have hf10 := C.2.2.2.2.2.1 _ fl_X5_leastBound_10
  have hf37 := C.2.2.2.2.2.1 _ fl_X5_leastBound_37
  rw [fX5_leastBound] at hm
  refine lv_aload_n hx hb dX5_leastBound_0 rfl (lv_at hl 0 rfl) ?_
  refine lv_iload_n hx hb dX5_leastBound_1 rfl (lv_at hl 1 rfl) ?_
  obtain ⟨q1, hcl, hm⟩ := bnd hm
  refine kVp _ (pm_wh _) C X (kX5_existingStrokeN l g D R p1 u ts bs ps hs ns q1 hcl) (cw_X5_leastBound_X5_existingStroke_87 C) 0 (ci := 5) rfl rfl (As := [.int p1]) rfl hl (rest := []) rfl (Nat.le_of_ble_eq_true rfl) (st2 := [.ref (D 1 (3 + 2 * q1))]) rfl dX5_leastBound_2 ⟨Nat.le_of_ble_eq_true rfl, Nat.le_of_ble_eq_true rfl⟩ (w3 := wB g D R u ts bs ps hs ns) (pm_wi _) (fun H locs X => ?_)
  clear hcl
  refine lv_astore (lv' := [(4, .ref (D 1 (3 + 2 * q1))), (0, .ref (D 0 0)), (1, .int p1), (2, .int p2), (3, .int p3)]) hx hb dX5_leastBound_5 hl (by decide) rfl (fun ls hl => ?_)
  refine lv_iload_n hx hb dX5_leastBound_7 rfl (lv_at hl 3 rfl) ?_
  refine lv_iconst (v := 2) hx hb dX5_leastBound_8 (by decide) ?_
  refine lv_bipush (v := 24) hx hb dX5_leastBound_9 (by decide) ?_
  obtain ⟨⟨⟩, hcl, hm⟩ := bnd hm
  refine kS0c C X (kX5_requireBetweenN l g p2 2 24  hcl) (cw_X5_leastBound_X5_requireBetween_180 C) (As := [.int p2, .int 2, .int 24]) rfl hl (rest := []) rfl (Nat.le_of_ble_eq_true rfl) (st2 := []) rfl dX5_leastBound_11 ⟨Nat.le_of_ble_eq_true rfl, Nat.le_of_ble_eq_true rfl⟩ (fun H locs X => ?_)
  clear hcl
  refine lv_iload_n hx hb dX5_leastBound_14 rfl (lv_at hl 4 rfl) ?_
  obtain ⟨⟨⟩, hcl, hm⟩ := bnd hm
  refine kS0c C X (kX5_requireWayN l g p3  hcl) (cw_X5_leastBound_X5_requireWay_140 C) (As := [.int p3]) rfl hl (rest := []) rfl (Nat.le_of_ble_eq_true rfl) (st2 := []) rfl dX5_leastBound_15 ⟨Nat.le_of_ble_eq_true rfl, Nat.le_of_ble_eq_true rfl⟩ (fun H locs X => ?_)
  clear hcl
  refine lv_aload_n hx hb dX5_leastBound_18 rfl (lv_at hl 1 rfl) ?_
  refine kget C X 0 (ci := 5) rfl rfl hinX5 4 (by decide) hf37 (v := .ref (D 4 0)) rfl dX5_leastBound_19 ?_
  refine lv_aload hx hb dX5_leastBound_22 (lv_at hl 0 rfl) ?_
  refine lv_aload_n hx hb dX5_leastBound_24 rfl (lv_at hl 1 rfl) ?_
  refine kget C X 0 (ci := 5) rfl rfl hinX5 0 (by decide) hf10 (v := .ref (D 1 0)) rfl dX5_leastBound_25 ?_
  refine lv_aload hx hb dX5_leastBound_28 (lv_at hl 0 rfl) ?_
  obtain ⟨r2, hcl, hm⟩ := bnd hm
  refine kVp _ b1_out C X (kX1_fixedPoints l g (D 1) q1 u r2 hcl) (cw_X5_leastBound_X1_fixedPoints_143 C) 0 (ci := 1) rfl rfl (As := [.ref (D 1 (3 + 2 * q1))]) rfl hl (rest := [.ref (D 1 (3 + 2 * q1)), .ref (D 4 0)]) rfl (Nat.le_of_ble_eq_true rfl) (st2 := [.int r2, .ref (D 1 (3 + 2 * q1)), .ref (D 4 0)]) rfl dX5_leastBound_30 ⟨Nat.le_of_ble_eq_true rfl, Nat.le_of_ble_eq_true rfl⟩ (w3 := wB g D R u ts bs ps hs ns) (b1_in u) (fun H locs X => ?_)
  clear hcl
  refine lv_iload_n hx hb dX5_leastBound_33 rfl (lv_at hl 3 rfl) ?_
  refine lv_iload_n hx hb dX5_leastBound_34 rfl (lv_at hl 4 rfl) ?_
  obtain ⟨hgk, hm⟩ := gd_t hm
  have hgk := of_decide_eq_true hgk
  obtain ⟨⟨r3, s4⟩, hcl, hm⟩ := bnd hm
  refine kVp _ (bp_out hgk) C X (kX2_leastBoundFor l g (D 4) (sa (D 1) q1) r2 p2 p3 ps (Sh_st u q1) r3 s4 hcl) (cw_X5_leastBound_X2_leastBoundFor_278 C) 0 (ci := 2) rfl rfl (As := [.ref (D 1 (3 + 2 * q1)), .int r2, .int p2, .int p3]) rfl hl (rest := []) rfl (Nat.le_of_ble_eq_true rfl) (st2 := [.int r3]) rfl dX5_leastBound_35 ⟨Nat.le_of_ble_eq_true rfl, Nat.le_of_ble_eq_true rfl⟩ (w3 := wB g D R u ts bs s4 hs ns) (bp_in0 hgk s4) (fun H locs X => ?_)
  clear hcl
  cases sm hm
  exact kiret C X dX5_leastBound_38
