-- X5 BrushStrokes.copyRow([I[I)V
abbrev rX5_copyRow : Room := { frames := 1, cells := 0, slots := 0, locals := 80 }
theorem ml_X5_copyRow_297 : (Cond.methodLink RX5 297 Lib.Math.min.name) ∈ wsX5_copyRow ∧ (Cond.static Lib.Math.min.name) ∈ wsX5_copyRow ∧ (Cond.initialized "java/lang/Math") ∈ wsX5_copyRow ∧ (Cond.code Lib.Math.min.name Lib.Math.min.code 2 (some .int)) ∈ wsX5_copyRow := by decide +kernel
theorem ml_X5_copyRow_302 : (Cond.methodLink RX5 302 arraycopyName) ∈ wsX5_copyRow ∧ (Cond.native arraycopyName) ∈ wsX5_copyRow ∧ (Cond.static arraycopyName) ∈ wsX5_copyRow ∧ (Cond.initialized "java/lang/System") ∈ wsX5_copyRow := by decide +kernel
noncomputable def fX5_copyRow (na : Nat) (nb : Nat) (u : (Nat → Int32)) (w : (Nat → Int32)) : Option ((Nat → Int32)) := gd (decide (¬ (if (Int32.ofNat nb) < (Int32.ofNat na) then (Int32.ofNat nb) else (Int32.ofNat na)) < 0 ∧ (if (Int32.ofNat nb) < (Int32.ofNat na) then (Int32.ofNat nb) else (Int32.ofNat na)).toNatClampNeg ≤ na ∧ (if (Int32.ofNat nb) < (Int32.ofNat na) then (Int32.ofNat nb) else (Int32.ofNat na)).toNatClampNeg ≤ nb)) (lt (va_cpy u w 0 0 (if (Int32.ofNat nb) < (Int32.ofNat na) then (Int32.ofNat nb) else (Int32.ofNat na)).toNatClampNeg) fun u1 => some u1)
set_option maxRecDepth 100000 in
set_option maxHeartbeats 4000000 in
theorem kX5_copyRow (l : Launch) (g : kG) (a : Nat → Nat) (b : Nat → Nat) (na : Nat) (nb : Nat) (u : (Nat → Int32)) (w : (Nat → Int32)) (o1 : (Nat → Int32)) (hm : fX5_copyRow na nb u w = some o1) : KM l yX5_copyRow wsX5_copyRow rX5_copyRow g [.ref (a 0), .ref (b 0)] (wR g a na u ++ wR g b nb w) none (wR g a na u ++ wR g b nb o1) 0 0 := by
  refine KM.of (nL := 2) (by decide) rfl (Nat.le_of_ble_eq_true rfl) ?_
  intro p e s m args below meth c A ls C X hl
  have C : CT g p s m args meth c RX5 cX5_copyRow 2 none wsX5_copyRow A := C
  have hx := C.1
  have hb := C.2.1
  have hl : lv_has ls 2 [(0, .ref (a 0)), (1, .ref (b 0))] := hl
  rw [fX5_copyRow] at hm
  refine lv_aload_n hx hb dX5_copyRow_0 rfl (lv_at hl 0 rfl) ?_
  refine lv_iconst (v := 0) hx hb dX5_copyRow_1 (by decide) ?_
  refine lv_aload_n hx hb dX5_copyRow_2 rfl (lv_at hl 1 rfl) ?_
  refine lv_iconst (v := 0) hx hb dX5_copyRow_3 (by decide) ?_
  refine lv_aload_n hx hb dX5_copyRow_4 rfl (lv_at hl 0 rfl) ?_
  refine kalen C X 0 rfl (v := Int32.ofNat na) rfl dX5_copyRow_5 ?_
  refine lv_aload_n hx hb dX5_copyRow_6 rfl (lv_at hl 1 rfl) ?_
  refine kalen C X 1 rfl (v := Int32.ofNat nb) rfl dX5_copyRow_7 ?_
  refine va_mmin hx hb (C.2.2.2.1.trans hl.1.symm) C.2.2.2.2.1 (C.2.2.2.2.2.1 _ ml_X5_copyRow_297.1) (C.2.2.2.2.2.1 _ ml_X5_copyRow_297.2.1) (C.2.2.2.2.2.1 _ ml_X5_copyRow_297.2.2.1) (C.2.2.2.2.2.1 _ ml_X5_copyRow_297.2.2.2) (Nat.le_of_ble_eq_true rfl) (Nat.le_of_ble_eq_true rfl) (Nat.le_of_ble_eq_true rfl) (Nat.le_of_ble_eq_true rfl) dX5_copyRow_8 ?_
  obtain ⟨hgk, hm⟩ := gd_t hm
  obtain ⟨u1, eu⟩ : ∃ z, z = va_cpy u w 0 0 (if (Int32.ofNat nb) < (Int32.ofNat na) then (Int32.ofNat nb) else (Int32.ofNat na)).toNatClampNeg := ⟨_, rfl⟩
  have hm := lt_t eu hm
  refine kcopy C X hl ml_X5_copyRow_302 0 1 rfl rfl hgk (Nat.le_of_ble_eq_true rfl) (Nat.le_of_ble_eq_true rfl) (w2 := wR g a na u ++ wR g b nb u1) (by subst eu; rfl) dX5_copyRow_11 (fun H locs X => ?_)
  clear eu
  cases sm hm
  exact kvret C X dX5_copyRow_14
-- X3 BrushStrokes$Stroke.copyFrom(LBrushStrokes$Stroke;)V
abbrev rX3_copyFrom : Room := { frames := 2, cells := 0, slots := 0, locals := 101 }
theorem fl_X3_copyFrom_11 : (Cond.fieldLink RX3 11 "BrushStrokes$Stroke" "numbers" "[I") ∈ wsX3_copyFrom := by decide +kernel
theorem fl_X3_copyFrom_15 : (Cond.fieldLink RX3 15 "BrushStrokes$Stroke" "size" "I") ∈ wsX3_copyFrom := by decide +kernel
theorem fl_X3_copyFrom_19 : (Cond.fieldLink RX3 19 "BrushStrokes$Stroke" "kept" "I") ∈ wsX3_copyFrom := by decide +kernel
theorem in_X3_copyFrom_X3 : ∀ w ∈ u_ws RX3 TX3 3, w ∈ wsX3_copyFrom := by decide +kernel
theorem cw_X3_copyFrom_X5_copyRow_32 {p : Program} {s : State} {m : MethodId} {args : Array Value} {meth : Method} {c : Code} {g : kG} {A : Nat → Prop} (C : CT g p s m args meth c RX3 cX3_copyFrom 2 none wsX3_copyFrom A) : va_CN rX3_copyFrom s args RX3 32 yX5_copyRow RX5 cX5_copyRow 2 none wsX5_copyRow rX5_copyRow 0 0 2 ∧ (Cond.static yX5_copyRow).before args s = true ∧ True := ⟨va_cnB 2 C.2.2.2.2.2.1 gX3_copyFrom_X5_copyRow_n32 rfl rfl rfl (C.2.2.2.2.2.2.2.1.2.1.1 (RX3, 32, yX5_copyRow, RX5) (by decide +kernel)) (C.2.2.2.2.2.1 (.initialized RX5) (by decide +kernel)) (by decide +kernel) ⟨Nat.le_of_ble_eq_true rfl, Nat.le_of_ble_eq_true rfl⟩, C.2.2.2.2.2.1 (.static yX5_copyRow) (by decide +kernel), trivial⟩
noncomputable def fX3_copyFrom (u : SS) (w : SS) : Option (SS) := (fX5_copyRow 72 72 (S_numbers w) (S_numbers u)).bind fun u1 => lt (S_s_size (S_s_numbers u u1) (S_size w)) fun u2 => lt (S_s_kept u2 (S_kept w)) fun u3 => some u3
set_option maxRecDepth 100000 in
set_option maxHeartbeats 4000000 in
theorem kX3_copyFrom (l : Launch) (g : kG) (a : Nat → Nat) (b : Nat → Nat) (u : SS) (w : SS) (o1 : SS) (hm : fX3_copyFrom u w = some o1) : KM l yX3_copyFrom wsX3_copyFrom rX3_copyFrom g [.ref (a 0), .ref (b 0)] (wS g a u ++ wS g b w) none (wS g a o1 ++ wS g b w) 0 0 := by
  refine KM.of (nL := 2) (by decide) rfl (Nat.le_of_ble_eq_true rfl) ?_
  intro p e s m args below meth c A ls C X hl
  have C : CT g p s m args meth c RX3 cX3_copyFrom 2 none wsX3_copyFrom A := C
  have hx := C.1
  have hb := C.2.1
  have hl : lv_has ls 2 [(0, .ref (a 0)), (1, .ref (b 0))] := hl
  have hinX3 := in_X3_copyFrom_X3
  have hf11 := C.2.2.2.2.2.1 _ fl_X3_copyFrom_11
  have hf15 := C.2.2.2.2.2.1 _ fl_X3_copyFrom_15
  have hf19 := C.2.2.2.2.2.1 _ fl_X3_copyFrom_19
  rw [fX3_copyFrom] at hm
  refine lv_aload_n hx hb dX3_copyFrom_0 rfl (lv_at hl 1 rfl) ?_
  refine kget C X 2 (ci := 3) rfl rfl hinX3 0 (by decide) hf11 (v := .ref (b 1)) rfl dX3_copyFrom_1 ?_
  refine lv_aload_n hx hb dX3_copyFrom_4 rfl (lv_at hl 0 rfl) ?_
  refine kget C X 0 (ci := 3) rfl rfl hinX3 0 (by decide) hf11 (v := .ref (a 1)) rfl dX3_copyFrom_5 ?_
  obtain ⟨u1, hcl, hm⟩ := bnd hm
  refine kNF [3, 1] [0, 2] C X (kX5_copyRow l g (fun _ => b 1) (fun _ => a 1) 72 72 (S_numbers w) (S_numbers u) u1 hcl) (cw_X3_copyFrom_X5_copyRow_32 C) rfl (by decide) rfl (by decide) (by decide) (As := [.ref (b 1), .ref (a 1)]) rfl hl (rest := []) rfl (Nat.le_of_ble_eq_true rfl) (st2 := []) rfl dX3_copyFrom_8 ⟨Nat.le_of_ble_eq_true rfl, Nat.le_of_ble_eq_true rfl⟩ [0, 3, 1, 2] (by decide) (w3 := wS g a (S_s_numbers u u1) ++ wS g b w) rfl (fun H locs X => ?_)
  clear hcl
  refine lv_aload_n hx hb dX3_copyFrom_11 rfl (lv_at hl 0 rfl) ?_
  refine lv_aload_n hx hb dX3_copyFrom_12 rfl (lv_at hl 1 rfl) ?_
  refine kget C X 2 (ci := 3) rfl rfl hinX3 1 (by decide) hf15 (v := .int (S_size w)) rfl dX3_copyFrom_13 ?_
  obtain ⟨u2, eu⟩ : ∃ z, z = S_s_size (S_s_numbers u u1) (S_size w) := ⟨_, rfl⟩
  have hm := lt_t eu hm
  refine kput C X 0 (ci := 3) rfl rfl hinX3 tyX3_ok nmX3 1 (by decide) hf15 rfl (ty := .int) (v := .int (S_size w)) rfl rfl rfl (Nat.le_of_ble_eq_true rfl) (w2 := wS g a u2 ++ wS g b w) (by subst eu; rfl) dX3_copyFrom_16 (fun H locs X => ?_)
  clear eu
  refine lv_aload_n hx hb dX3_copyFrom_19 rfl (lv_at hl 0 rfl) ?_
  refine lv_aload_n hx hb dX3_copyFrom_20 rfl (lv_at hl 1 rfl) ?_
  refine kget C X 2 (ci := 3) rfl rfl hinX3 2 (by decide) hf19 (v := .int (S_kept w)) rfl dX3_copyFrom_21 ?_
  obtain ⟨u3, eu⟩ : ∃ z, z = S_s_kept u2 (S_kept w) := ⟨_, rfl⟩
  have hm := lt_t eu hm
  refine kput C X 0 (ci := 3) rfl rfl hinX3 tyX3_ok nmX3 2 (by decide) hf19 rfl (ty := .int) (v := .int (S_kept w)) rfl rfl rfl (Nat.le_of_ble_eq_true rfl) (w2 := wS g a u3 ++ wS g b w) (by subst eu; rfl) dX3_copyFrom_24 (fun H locs X => ?_)
  clear eu
  cases sm hm
  exact kvret C X dX3_copyFrom_27
