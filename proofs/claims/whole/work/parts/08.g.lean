-- the history: mirrors
def ShNew : ShS := (fun _ => (fun _ => 0, 0, 0), kf0, 0, 0, 0)
noncomputable def fX0_size (hs : HS) : Option Int32 := some hs.2.2
def hsShift (hs : HS) : HS := if hs.2.2 = 6 then (hs.1, (hs.2.1 + 1) - (hs.2.1 + 1) / 6 * 6, hs.2.2 - 1) else hs
def hsPlace (x : Int32) : Int32 := x - x / 6 * 6
noncomputable def fX0_save (hs : HS) (u : ShS) : Option HS :=
  if hsPlace ((hsShift hs).2.1 + (hsShift hs).2.2) < 0 then some (hsShift hs) else if 6 ≤ hsPlace ((hsShift hs).2.1 + (hsShift hs).2.2) then some (hsShift hs) else
  gd (inb (hsPlace ((hsShift hs).2.1 + (hsShift hs).2.2)) 6) ((fX1_copyFrom (((hsShift hs).1 (hsPlace ((hsShift hs).2.1 + (hsShift hs).2.2)).toNatClampNeg).getD ShNew) u).bind fun v =>
    some (va_up (hsShift hs).1 (hsPlace ((hsShift hs).2.1 + (hsShift hs).2.2)).toNatClampNeg (some v), (hsShift hs).2.1, (hsShift hs).2.2 + 1))
noncomputable def fX0_restoreLast (hs : HS) (u : ShS) : Option (HS × ShS) :=
  if hsPlace (hs.2.1 + hs.2.2 - 1) < 0 then some (hs, u) else if 6 ≤ hsPlace (hs.2.1 + hs.2.2 - 1) then some (hs, u) else
  gd (inb (hsPlace (hs.2.1 + hs.2.2 - 1)) 6) ((Option.elim (hs.1 (hsPlace (hs.2.1 + hs.2.2 - 1)).toNatClampNeg) (some u) (fun v => fX1_copyFrom u v)).bind fun u2 => some ((hs.1, hs.2.1, hs.2.2 - 1), u2))
abbrev rX0_size : Room := { frames := 0, cells := 0, slots := 0, locals := 0 }
abbrev rX0_save : Room := { frames := 6, cells := 13, slots := 389, locals := 230 }
abbrev rX0_restoreLast : Room := { frames := 6, cells := 0, slots := 0, locals := 230 }
theorem kX0_size (l : Launch) (g : kG) (h : Nat → Nat) (r : Nat → Nat → Nat) (hs : HS) (o1 : Int32) (hm : fX0_size hs = some o1) : KM l yX0_size wsX0_size rX0_size g [.ref (h 0)] (wH g h r hs) (some (.int o1)) (wH g h r hs) 0 0 := by
  sorry
theorem kX0_save (l : Launch) (g : kG) (h a : Nat → Nat) (r : Nat → Nat → Nat) (hs : HS) (u : ShS) (o : HS) (hm : fX0_save hs u = some o) : KX (S := Nat → Nat → Nat) l yX0_save wsX0_save rX0_save g [.ref (h 0), .ref (a 0)] (wH g h r hs ++ wSh g a u) (.inr (none, fun r2 => wH g h r2 o ++ wSh g a u)) 13 389 := by
  sorry
theorem kX0_restoreLast (l : Launch) (g : kG) (h a : Nat → Nat) (r : Nat → Nat → Nat) (hs : HS) (u : ShS) (o1 : HS) (o2 : ShS) (hm : fX0_restoreLast hs u = some (o1, o2)) : KM l yX0_restoreLast wsX0_restoreLast rX0_restoreLast g [.ref (h 0), .ref (a 0)] (wH g h r hs ++ wSh g a u) none (wH g h r o1 ++ wSh g a o2) 0 0 := by
  sorry
noncomputable def fX4_told (_ : TS) (_ : SS) : Option Unit := some ()
abbrev rX4_told : Room := { frames := 0, cells := 0, slots := 0, locals := 0 }
theorem in_X4_told_X4 : ∀ w ∈ u_ws RX4 TX4 8, w ∈ wsX4_told := by decide +kernel
theorem fl_X4_told : (Cond.fieldLink RX4 18 "BrushStrokes$StrokeText" "told" "LBrushStrokes$Stroke;") ∈ wsX4_told := by decide +kernel
set_option maxRecDepth 100000 in
set_option maxHeartbeats 4000000 in
theorem kX4_told (l : Launch) (g : kG) (a b : Nat → Nat) (u : TS) (w : SS) (hm : fX4_told u w = some ()) : KM l yX4_told wsX4_told rX4_told g [.ref (a 0)] (wT g a (b 0) u ++ wS g b w) (some (.ref (b 0))) (wT g a (b 0) u ++ wS g b w) 0 0 := by
  refine KM.of (nL := 1) (by decide) rfl (Nat.le_of_ble_eq_true rfl) ?_
  intro p e s m args below meth c A ls C X hl
  have C : CT g p s m args meth c RX4 cX4_told 1 (some (.object "BrushStrokes$Stroke")) wsX4_told A := C
  have hx := C.1
  have hb := C.2.1
  have hl : lv_has ls 1 [(0, .ref (a 0))] := hl
  have hin := in_X4_told_X4
  have hf := C.2.2.2.2.2.1 _ fl_X4_told
  refine lv_aload_n hx hb dX4_told_0 rfl (lv_at hl 0 rfl) ?_
  refine kget C X 0 (ci := 4) rfl rfl hin 2 (by decide) hf (v := .ref (b 0)) rfl dX4_told_1 ?_
  exact karet C X dX4_told_4
