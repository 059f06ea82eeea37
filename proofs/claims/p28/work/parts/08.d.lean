-- X5 BrushStrokes.requireBetween(III)V
abbrev rX5_requireBetween : Room := { frames := 6, cells := 1, slots := 6, locals := 90 }
theorem xw_X5_requireBetween_74 : (Cond.classLink RX5 70 (kEx 1)) ∈ wsX5_requireBetween ∧ (Cond.initialized (kEx 1)) ∈ wsX5_requireBetween ∧ (∀ w ∈ (vx_atS RX5 74 (kEx 1) ["java/lang/RuntimeException", "java/lang/Exception"]).filter goodWord, w ∈ wsX5_requireBetween) ∧ (∀ w ∈ (vx_atS RX5 74 (kEx 1) ["java/lang/RuntimeException", "java/lang/Exception"]).filter (fun w => !goodWord w), w ∈ Cond.castable (kEx 1) (kEx 1) :: kDecl.map Cond.declares) ∧ ∀ w ∈ Cond.classLink RX5 70 (kEx 1) :: Cond.initialized (kEx 1) :: vx_atS RX5 74 (kEx 1) ["java/lang/RuntimeException", "java/lang/Exception"], vx_ot w = true := by decide +kernel
noncomputable def fX5_requireBetween (p1 : Int32) (p2 : Int32) (p3 : Int32) : Option ((Nat) ⊕ (Unit)) := if p1 < p2 then (some (.inl 1)) else (if p1 ≤ p3 then (some (.inr ())) else (some (.inl 1)))
def obX5_requireBetween  : (Nat) ⊕ (Unit) → kOut Unit
  | .inl E => .inl (E, fun _ => [])
  | .inr _ => .inr (none, fun _ => [])
set_option maxRecDepth 100000 in
set_option maxHeartbeats 4000000 in
theorem kX5_requireBetween (l : Launch) (hl9 : l.stackTraces = false) (g : kG) (p1 : Int32) (p2 : Int32) (p3 : Int32) (o : (Nat) ⊕ (Unit)) (hm : fX5_requireBetween p1 p2 p3 = some o) : KX (S := Unit) l yX5_requireBetween wsX5_requireBetween rX5_requireBetween g [.int p1, .int p2, .int p3] ([]) (obX5_requireBetween o) 1 6 := by
  refine KX.of (nL := 3) (by decide) rfl (Nat.le_of_ble_eq_true rfl) ?_
  intro p e s m args below meth c A ls C htab X hl
  have C : CT g p s m args meth c RX5 cX5_requireBetween 3 none wsX5_requireBetween A := C
  have hx := C.1
  have hb := C.2.1
  have hl : lv_has ls 3 [(0, .int p1), (1, .int p2), (2, .int p3)] := hl
  rw [fX5_requireBetween] at hm
  refine lv_iload_n hx hb dX5_requireBetween_0 rfl (lv_at hl 0 rfl) ?_
  refine lv_iload_n hx hb dX5_requireBetween_1 rfl (lv_at hl 1 rfl) ?_
  refine lv_icmp_lt (tgt := 10) hx hb dX5_requireBetween_2 (by decide) (fun hc => ?_) (fun hc => ?_)
  · have hm := ifp hc hm
    cases sm hm
    exact kxthrowW (E := 1) () (names := ["java/lang/RuntimeException", "java/lang/Exception"]) (ik := 70) (is := 295) (ic := 74) (text := "an argument is out of range") C htab X hl9 hl (by decide) (by decide) rfl (by decide) xw_X5_requireBetween_74.1 xw_X5_requireBetween_74.2.1 xw_X5_requireBetween_74.2.2.1 xw_X5_requireBetween_74.2.2.2.1 (by decide) xw_X5_requireBetween_74.2.2.2.2 dX5_requireBetween_10 dX5_requireBetween_13 dX5_requireBetween_14 dX5_requireBetween_17 dX5_requireBetween_20 (Nat.le_of_ble_eq_true rfl) (Nat.le_of_ble_eq_true rfl) (Nat.le_of_ble_eq_true rfl) (Nat.le_of_ble_eq_true rfl) (Nat.le_of_ble_eq_true rfl) (Nat.le_of_ble_eq_true rfl)
  · have hm := ifn hc hm
    refine lv_iload_n hx hb dX5_requireBetween_5 rfl (lv_at hl 0 rfl) ?_
    refine lv_iload_n hx hb dX5_requireBetween_6 rfl (lv_at hl 2 rfl) ?_
    refine lv_icmp_le (tgt := 21) hx hb dX5_requireBetween_7 (by decide) (fun hc => ?_) (fun hc => ?_)
    · have hm := ifp hc hm
      cases sm hm
      exact kxret () (Nat.le_of_ble_eq_true rfl) (Nat.le_of_ble_eq_true rfl) (kvret C X dX5_requireBetween_21)
    · have hm := ifn hc hm
      cases sm hm
      exact kxthrowW (E := 1) () (names := ["java/lang/RuntimeException", "java/lang/Exception"]) (ik := 70) (is := 295) (ic := 74) (text := "an argument is out of range") C htab X hl9 hl (by decide) (by decide) rfl (by decide) xw_X5_requireBetween_74.1 xw_X5_requireBetween_74.2.1 xw_X5_requireBetween_74.2.2.1 xw_X5_requireBetween_74.2.2.2.1 (by decide) xw_X5_requireBetween_74.2.2.2.2 dX5_requireBetween_10 dX5_requireBetween_13 dX5_requireBetween_14 dX5_requireBetween_17 dX5_requireBetween_20 (Nat.le_of_ble_eq_true rfl) (Nat.le_of_ble_eq_true rfl) (Nat.le_of_ble_eq_true rfl) (Nat.le_of_ble_eq_true rfl) (Nat.le_of_ble_eq_true rfl) (Nat.le_of_ble_eq_true rfl)
-- X5 BrushStrokes.requirePlace(II)V
abbrev rX5_requirePlace : Room := { frames := 7, cells := 2, slots := 12, locals := 112 }
theorem cw_X5_requirePlace_X5_requireBetween_180 {p : Program} {s : State} {m : MethodId} {args : Array Value} {meth : Method} {c : Code} {g : kG} {A : Nat → Prop} (C : CT g p s m args meth c RX5 cX5_requirePlace 2 none wsX5_requirePlace A) : CallB rX5_requirePlace s args RX5 180 yX5_requireBetween cX5_requireBetween 3 none wsX5_requireBetween rX5_requireBetween 1 6 3 ∧ (Cond.static yX5_requireBetween).before args s = true := va_cwS 3 C.2.2.2.2.2.1 gX5_requirePlace_X5_requireBetween rfl rfl rfl (by decide +kernel) ⟨Nat.le_of_ble_eq_true rfl, Nat.le_of_ble_eq_true rfl⟩
noncomputable def fX5_requirePlace (p1 : Int32) (p2 : Int32) : Option ((Nat) ⊕ (Unit)) := (fX5_requireBetween p1 0 99).bind fun q => Sum.elim (fun E => some (.inl E)) (fun _ => (fX5_requireBetween p2 0 99).bind fun q => Sum.elim (fun E => some (.inl E)) (fun _ => some (.inr ())) q) q
def obX5_requirePlace  : (Nat) ⊕ (Unit) → kOut Unit
  | .inl E => .inl (E, fun _ => [])
  | .inr _ => .inr (none, fun _ => [])
set_option maxRecDepth 100000 in
set_option maxHeartbeats 4000000 in
theorem kX5_requirePlace (l : Launch) (hl9 : l.stackTraces = false) (g : kG) (p1 : Int32) (p2 : Int32) (o : (Nat) ⊕ (Unit)) (hm : fX5_requirePlace p1 p2 = some o) : KX (S := Unit) l yX5_requirePlace wsX5_requirePlace rX5_requirePlace g [.int p1, .int p2] ([]) (obX5_requirePlace o) 2 12 := by
  refine KX.of (nL := 2) (by decide) rfl (Nat.le_of_ble_eq_true rfl) ?_
  intro p e s m args below meth c A ls C htab X hl
  have C : CT g p s m args meth c RX5 cX5_requirePlace 2 none wsX5_requirePlace A := C
  have hx := C.1
  have hb := C.2.1
  have hl : lv_has ls 2 [(0, .int p1), (1, .int p2)] := hl
  rw [fX5_requirePlace] at hm
  refine lv_iload_n hx hb dX5_requirePlace_0 rfl (lv_at hl 0 rfl) ?_
  refine lv_iconst (v := 0) hx hb dX5_requirePlace_1 (by decide) ?_
  refine lv_bipush (v := 99) hx hb dX5_requirePlace_2 (by decide) ?_
  obtain ⟨q, hcl, hm⟩ := bnd hm
  rcases q with E | ⟨⟩
  · have hm := se_l hm
    cases sm hm
    exact kxSt _ (pm_no _) C htab X (kX5_requireBetween l hl9 g p1 0 99 (.inl E) hcl) (cw_X5_requirePlace_X5_requireBetween_180 C) (As := [.int p1, .int 0, .int 99]) rfl hl (rest := []) rfl (Nat.le_of_ble_eq_true rfl) dX5_requirePlace_4 ⟨Nat.le_of_ble_eq_true rfl, Nat.le_of_ble_eq_true rfl⟩ (Nat.le_of_ble_eq_true rfl) (Nat.le_of_ble_eq_true rfl) (fun _ => ⟨(), List.Perm.refl _⟩)
  have hm := se_r hm
  refine kxS _ (pm_no _) C X (kX5_requireBetween l hl9 g p1 0 99 (.inr ()) hcl) (cw_X5_requirePlace_X5_requireBetween_180 C) (As := [.int p1, .int 0, .int 99]) rfl hl (rest := []) rfl (Nat.le_of_ble_eq_true rfl) (st2 := []) rfl dX5_requirePlace_4 ⟨Nat.le_of_ble_eq_true rfl, Nat.le_of_ble_eq_true rfl⟩ (w3 := (fun _ => [])) (fun _ => (pm_ni _)) (fun _ H locs X => ?_)
  clear hcl
  refine lv_iload_n hx hb dX5_requirePlace_7 rfl (lv_at hl 1 rfl) ?_
  refine lv_iconst (v := 0) hx hb dX5_requirePlace_8 (by decide) ?_
  refine lv_bipush (v := 99) hx hb dX5_requirePlace_9 (by decide) ?_
  obtain ⟨q, hcl, hm⟩ := bnd hm
  rcases q with E | ⟨⟩
  · have hm := se_l hm
    cases sm hm
    exact kxSt _ (pm_no _) C htab X (kX5_requireBetween l hl9 g p2 0 99 (.inl E) hcl) (cw_X5_requirePlace_X5_requireBetween_180 C) (As := [.int p2, .int 0, .int 99]) rfl hl (rest := []) rfl (Nat.le_of_ble_eq_true rfl) dX5_requirePlace_11 ⟨Nat.le_of_ble_eq_true rfl, Nat.le_of_ble_eq_true rfl⟩ (Nat.le_of_ble_eq_true rfl) (Nat.le_of_ble_eq_true rfl) (fun _ => ⟨(), List.Perm.refl _⟩)
  have hm := se_r hm
  refine kxS _ (pm_no _) C X (kX5_requireBetween l hl9 g p2 0 99 (.inr ()) hcl) (cw_X5_requirePlace_X5_requireBetween_180 C) (As := [.int p2, .int 0, .int 99]) rfl hl (rest := []) rfl (Nat.le_of_ble_eq_true rfl) (st2 := []) rfl dX5_requirePlace_11 ⟨Nat.le_of_ble_eq_true rfl, Nat.le_of_ble_eq_true rfl⟩ (w3 := (fun _ => [])) (fun _ => (pm_ni _)) (fun _ H locs X => ?_)
  clear hcl
  cases sm hm
  exact kxret () (Nat.le_of_ble_eq_true rfl) (Nat.le_of_ble_eq_true rfl) (kvret C X dX5_requirePlace_14)
-- X5 BrushStrokes.requireWidth(I)V
abbrev rX5_requireWidth : Room := { frames := 7, cells := 1, slots := 6, locals := 112 }
theorem cw_X5_requireWidth_X5_requireBetween_180 {p : Program} {s : State} {m : MethodId} {args : Array Value} {meth : Method} {c : Code} {g : kG} {A : Nat → Prop} (C : CT g p s m args meth c RX5 cX5_requireWidth 1 none wsX5_requireWidth A) : CallB rX5_requireWidth s args RX5 180 yX5_requireBetween cX5_requireBetween 3 none wsX5_requireBetween rX5_requireBetween 1 6 3 ∧ (Cond.static yX5_requireBetween).before args s = true := va_cwS 3 C.2.2.2.2.2.1 gX5_requireWidth_X5_requireBetween rfl rfl rfl (by decide +kernel) ⟨Nat.le_of_ble_eq_true rfl, Nat.le_of_ble_eq_true rfl⟩
noncomputable def fX5_requireWidth (p1 : Int32) : Option ((Nat) ⊕ (Unit)) := (fX5_requireBetween p1 1 20).bind fun q => Sum.elim (fun E => some (.inl E)) (fun _ => some (.inr ())) q
def obX5_requireWidth  : (Nat) ⊕ (Unit) → kOut Unit
  | .inl E => .inl (E, fun _ => [])
  | .inr _ => .inr (none, fun _ => [])
set_option maxRecDepth 100000 in
set_option maxHeartbeats 4000000 in
theorem kX5_requireWidth (l : Launch) (hl9 : l.stackTraces = false) (g : kG) (p1 : Int32) (o : (Nat) ⊕ (Unit)) (hm : fX5_requireWidth p1 = some o) : KX (S := Unit) l yX5_requireWidth wsX5_requireWidth rX5_requireWidth g [.int p1] ([]) (obX5_requireWidth o) 1 6 := by
  refine KX.of (nL := 1) (by decide) rfl (Nat.le_of_ble_eq_true rfl) ?_
  intro p e s m args below meth c A ls C htab X hl
  have C : CT g p s m args meth c RX5 cX5_requireWidth 1 none wsX5_requireWidth A := C
  have hx := C.1
  have hb := C.2.1
  have hl : lv_has ls 1 [(0, .int p1)] := hl
  rw [fX5_requireWidth] at hm
  refine lv_iload_n hx hb dX5_requireWidth_0 rfl (lv_at hl 0 rfl) ?_
  refine lv_iconst (v := 1) hx hb dX5_requireWidth_1 (by decide) ?_
  refine lv_bipush (v := 20) hx hb dX5_requireWidth_2 (by decide) ?_
  obtain ⟨q, hcl, hm⟩ := bnd hm
  rcases q with E | ⟨⟩
  · have hm := se_l hm
    cases sm hm
    exact kxSt _ (pm_no _) C htab X (kX5_requireBetween l hl9 g p1 1 20 (.inl E) hcl) (cw_X5_requireWidth_X5_requireBetween_180 C) (As := [.int p1, .int 1, .int 20]) rfl hl (rest := []) rfl (Nat.le_of_ble_eq_true rfl) dX5_requireWidth_4 ⟨Nat.le_of_ble_eq_true rfl, Nat.le_of_ble_eq_true rfl⟩ (Nat.le_of_ble_eq_true rfl) (Nat.le_of_ble_eq_true rfl) (fun _ => ⟨(), List.Perm.refl _⟩)
  have hm := se_r hm
  refine kxS _ (pm_no _) C X (kX5_requireBetween l hl9 g p1 1 20 (.inr ()) hcl) (cw_X5_requireWidth_X5_requireBetween_180 C) (As := [.int p1, .int 1, .int 20]) rfl hl (rest := []) rfl (Nat.le_of_ble_eq_true rfl) (st2 := []) rfl dX5_requireWidth_4 ⟨Nat.le_of_ble_eq_true rfl, Nat.le_of_ble_eq_true rfl⟩ (w3 := (fun _ => [])) (fun _ => (pm_ni _)) (fun _ H locs X => ?_)
  clear hcl
  cases sm hm
  exact kxret () (Nat.le_of_ble_eq_true rfl) (Nat.le_of_ble_eq_true rfl) (kvret C X dX5_requireWidth_7)
-- X5 BrushStrokes.requireWay(I)V
abbrev rX5_requireWay : Room := { frames := 7, cells := 1, slots := 6, locals := 112 }
theorem cw_X5_requireWay_X5_requireBetween_180 {p : Program} {s : State} {m : MethodId} {args : Array Value} {meth : Method} {c : Code} {g : kG} {A : Nat → Prop} (C : CT g p s m args meth c RX5 cX5_requireWay 1 none wsX5_requireWay A) : CallB rX5_requireWay s args RX5 180 yX5_requireBetween cX5_requireBetween 3 none wsX5_requireBetween rX5_requireBetween 1 6 3 ∧ (Cond.static yX5_requireBetween).before args s = true := va_cwS 3 C.2.2.2.2.2.1 gX5_requireWay_X5_requireBetween rfl rfl rfl (by decide +kernel) ⟨Nat.le_of_ble_eq_true rfl, Nat.le_of_ble_eq_true rfl⟩
noncomputable def fX5_requireWay (p1 : Int32) : Option ((Nat) ⊕ (Unit)) := (fX5_requireBetween p1 0 1).bind fun q => Sum.elim (fun E => some (.inl E)) (fun _ => some (.inr ())) q
def obX5_requireWay  : (Nat) ⊕ (Unit) → kOut Unit
  | .inl E => .inl (E, fun _ => [])
  | .inr _ => .inr (none, fun _ => [])
set_option maxRecDepth 100000 in
set_option maxHeartbeats 4000000 in
theorem kX5_requireWay (l : Launch) (hl9 : l.stackTraces = false) (g : kG) (p1 : Int32) (o : (Nat) ⊕ (Unit)) (hm : fX5_requireWay p1 = some o) : KX (S := Unit) l yX5_requireWay wsX5_requireWay rX5_requireWay g [.int p1] ([]) (obX5_requireWay o) 1 6 := by
  refine KX.of (nL := 1) (by decide) rfl (Nat.le_of_ble_eq_true rfl) ?_
  intro p e s m args below meth c A ls C htab X hl
  have C : CT g p s m args meth c RX5 cX5_requireWay 1 none wsX5_requireWay A := C
  have hx := C.1
  have hb := C.2.1
  have hl : lv_has ls 1 [(0, .int p1)] := hl
  rw [fX5_requireWay] at hm
  refine lv_iload_n hx hb dX5_requireWay_0 rfl (lv_at hl 0 rfl) ?_
  refine lv_iconst (v := 0) hx hb dX5_requireWay_1 (by decide) ?_
  refine lv_iconst (v := 1) hx hb dX5_requireWay_2 (by decide) ?_
  obtain ⟨q, hcl, hm⟩ := bnd hm
  rcases q with E | ⟨⟩
  · have hm := se_l hm
    cases sm hm
    exact kxSt _ (pm_no _) C htab X (kX5_requireBetween l hl9 g p1 0 1 (.inl E) hcl) (cw_X5_requireWay_X5_requireBetween_180 C) (As := [.int p1, .int 0, .int 1]) rfl hl (rest := []) rfl (Nat.le_of_ble_eq_true rfl) dX5_requireWay_3 ⟨Nat.le_of_ble_eq_true rfl, Nat.le_of_ble_eq_true rfl⟩ (Nat.le_of_ble_eq_true rfl) (Nat.le_of_ble_eq_true rfl) (fun _ => ⟨(), List.Perm.refl _⟩)
  have hm := se_r hm
  refine kxS _ (pm_no _) C X (kX5_requireBetween l hl9 g p1 0 1 (.inr ()) hcl) (cw_X5_requireWay_X5_requireBetween_180 C) (As := [.int p1, .int 0, .int 1]) rfl hl (rest := []) rfl (Nat.le_of_ble_eq_true rfl) (st2 := []) rfl dX5_requireWay_3 ⟨Nat.le_of_ble_eq_true rfl, Nat.le_of_ble_eq_true rfl⟩ (w3 := (fun _ => [])) (fun _ => (pm_ni _)) (fun _ H locs X => ?_)
  clear hcl
  cases sm hm
  exact kxret () (Nat.le_of_ble_eq_true rfl) (Nat.le_of_ble_eq_true rfl) (kvret C X dX5_requireWay_6)
-- X5 BrushStrokes.requireSetting(I)V
abbrev rX5_requireSetting : Room := { frames := 6, cells := 1, slots := 6, locals := 90 }
theorem fl_X5_requireSetting_290 : (Cond.fieldLink RX5 290 "BrushStrokes" "FIRST_VALUES" "[I") ∈ wsX5_requireSetting := by decide +kernel
theorem xw_X5_requireSetting_98 : (Cond.classLink RX5 94 (kEx 0)) ∈ wsX5_requireSetting ∧ (Cond.initialized (kEx 0)) ∈ wsX5_requireSetting ∧ (∀ w ∈ (vx_atS RX5 98 (kEx 0) ["java/lang/RuntimeException", "java/lang/Exception"]).filter goodWord, w ∈ wsX5_requireSetting) ∧ (∀ w ∈ (vx_atS RX5 98 (kEx 0) ["java/lang/RuntimeException", "java/lang/Exception"]).filter (fun w => !goodWord w), w ∈ Cond.castable (kEx 0) (kEx 0) :: kDecl.map Cond.declares) ∧ ∀ w ∈ Cond.classLink RX5 94 (kEx 0) :: Cond.initialized (kEx 0) :: vx_atS RX5 98 (kEx 0) ["java/lang/RuntimeException", "java/lang/Exception"], vx_ot w = true := by decide +kernel
noncomputable def fX5_requireSetting (p1 : Int32) : Option ((Nat) ⊕ (Unit)) := if p1 < 0 then (some (.inl 0)) else (if p1 < 4 then (some (.inr ())) else (some (.inl 0)))
def obX5_requireSetting  : (Nat) ⊕ (Unit) → kOut Unit
  | .inl E => .inl (E, fun _ => [])
  | .inr _ => .inr (none, fun _ => [])
set_option maxRecDepth 100000 in
set_option maxHeartbeats 4000000 in
theorem kX5_requireSetting (l : Launch) (hl9 : l.stackTraces = false) (g : kG) (p1 : Int32) (o : (Nat) ⊕ (Unit)) (hm : fX5_requireSetting p1 = some o) : KX (S := Unit) l yX5_requireSetting wsX5_requireSetting rX5_requireSetting g [.int p1] ([]) (obX5_requireSetting o) 1 6 := by
  refine KX.of (nL := 1) (by decide) rfl (Nat.le_of_ble_eq_true rfl) ?_
  intro p e s m args below meth c A ls C htab X hl
  have C : CT g p s m args meth c RX5 cX5_requireSetting 1 none wsX5_requireSetting A := C
  have hx := C.1
  have hb := C.2.1
  have hl : lv_has ls 1 [(0, .int p1)] := hl
  have hf290 := C.2.2.2.2.2.1 _ fl_X5_requireSetting_290
  rw [fX5_requireSetting] at hm
  refine lv_iload_n hx hb dX5_requireSetting_0 rfl (lv_at hl 0 rfl) ?_
  refine lv_if_lt (tgt := 12) hx hb dX5_requireSetting_1 (by decide) (fun hc => ?_) (fun hc => ?_)
  · have hm := ifp hc hm
    cases sm hm
    exact kxthrowW (E := 0) () (names := ["java/lang/RuntimeException", "java/lang/Exception"]) (ik := 94) (is := 293) (ic := 98) (text := "there is no such setting") C htab X hl9 hl (by decide) (by decide) rfl (by decide) xw_X5_requireSetting_98.1 xw_X5_requireSetting_98.2.1 xw_X5_requireSetting_98.2.2.1 xw_X5_requireSetting_98.2.2.2.1 (by decide) xw_X5_requireSetting_98.2.2.2.2 dX5_requireSetting_12 dX5_requireSetting_15 dX5_requireSetting_16 dX5_requireSetting_19 dX5_requireSetting_22 (Nat.le_of_ble_eq_true rfl) (Nat.le_of_ble_eq_true rfl) (Nat.le_of_ble_eq_true rfl) (Nat.le_of_ble_eq_true rfl) (Nat.le_of_ble_eq_true rfl) (Nat.le_of_ble_eq_true rfl)
  · have hm := ifn hc hm
    refine lv_iload_n hx hb dX5_requireSetting_4 rfl (lv_at hl 0 rfl) ?_
    refine kgets0 C X hf290 dX5_requireSetting_5 ?_
    refine kslen0 C X dX5_requireSetting_8 ?_
    refine lv_icmp_lt (tgt := 23) hx hb dX5_requireSetting_9 (by decide) (fun hc => ?_) (fun hc => ?_)
    · have hm := ifp hc hm
      cases sm hm
      exact kxret () (Nat.le_of_ble_eq_true rfl) (Nat.le_of_ble_eq_true rfl) (kvret C X dX5_requireSetting_23)
    · have hm := ifn hc hm
      cases sm hm
      exact kxthrowW (E := 0) () (names := ["java/lang/RuntimeException", "java/lang/Exception"]) (ik := 94) (is := 293) (ic := 98) (text := "there is no such setting") C htab X hl9 hl (by decide) (by decide) rfl (by decide) xw_X5_requireSetting_98.1 xw_X5_requireSetting_98.2.1 xw_X5_requireSetting_98.2.2.1 xw_X5_requireSetting_98.2.2.2.1 (by decide) xw_X5_requireSetting_98.2.2.2.2 dX5_requireSetting_12 dX5_requireSetting_15 dX5_requireSetting_16 dX5_requireSetting_19 dX5_requireSetting_22 (Nat.le_of_ble_eq_true rfl) (Nat.le_of_ble_eq_true rfl) (Nat.le_of_ble_eq_true rfl) (Nat.le_of_ble_eq_true rfl) (Nat.le_of_ble_eq_true rfl) (Nat.le_of_ble_eq_true rfl)
-- X5 BrushStrokes.requirePoint(LBrushStrokes$Stroke;I)V
abbrev rX5_requirePoint : Room := { frames := 6, cells := 1, slots := 6, locals := 90 }
theorem xw_X5_requirePoint_98 : (Cond.classLink RX5 94 (kEx 0)) ∈ wsX5_requirePoint ∧ (Cond.initialized (kEx 0)) ∈ wsX5_requirePoint ∧ (∀ w ∈ (vx_atS RX5 98 (kEx 0) ["java/lang/RuntimeException", "java/lang/Exception"]).filter goodWord, w ∈ wsX5_requirePoint) ∧ (∀ w ∈ (vx_atS RX5 98 (kEx 0) ["java/lang/RuntimeException", "java/lang/Exception"]).filter (fun w => !goodWord w), w ∈ Cond.castable (kEx 0) (kEx 0) :: kDecl.map Cond.declares) ∧ ∀ w ∈ Cond.classLink RX5 94 (kEx 0) :: Cond.initialized (kEx 0) :: vx_atS RX5 98 (kEx 0) ["java/lang/RuntimeException", "java/lang/Exception"], vx_ot w = true := by decide +kernel
theorem cw_X5_requirePoint_X3_size_91 {p : Program} {s : State} {m : MethodId} {args : Array Value} {meth : Method} {c : Code} {g : kG} {A : Nat → Prop} (C : CT g p s m args meth c RX5 cX5_requirePoint 2 none wsX5_requirePoint A) : CallW rX5_requirePoint s args RX5 RX3 91 yX3_size cX3_size 1 (some .int) wsX3_size rX3_size 0 0 0 := cwV 0 C.2.2.2.2.2.1 gX5_requirePoint_X3_size rfl rfl rfl (by decide +kernel) ⟨Nat.le_of_ble_eq_true rfl, Nat.le_of_ble_eq_true rfl⟩
noncomputable def fX5_requirePoint (p1 : Int32) (u : SS) : Option ((Nat) ⊕ (Unit)) := if p1 < 0 then (some (.inl 0)) else ((fX3_size u).bind fun r1 => if p1 < r1 then (some (.inr ())) else (some (.inl 0)))
def obX5_requirePoint (g : kG) (a : Nat → Nat) (u : SS) : (Nat) ⊕ (Unit) → kOut Unit
  | .inl E => .inl (E, fun _ => wS g a u)
  | .inr _ => .inr (none, fun _ => wS g a u)
set_option maxRecDepth 100000 in
set_option maxHeartbeats 4000000 in
theorem kX5_requirePoint (l : Launch) (hl9 : l.stackTraces = false) (g : kG) (a : Nat → Nat) (p1 : Int32) (u : SS) (o : (Nat) ⊕ (Unit)) (hm : fX5_requirePoint p1 u = some o) : KX (S := Unit) l yX5_requirePoint wsX5_requirePoint rX5_requirePoint g [.ref (a 0), .int p1] (wS g a u) (obX5_requirePoint g a u o) 1 6 := by
  refine KX.of (nL := 2) (by decide) rfl (Nat.le_of_ble_eq_true rfl) ?_
  intro p e s m args below meth c A ls C htab X hl
  have C : CT g p s m args meth c RX5 cX5_requirePoint 2 none wsX5_requirePoint A := C
  have hx := C.1
  have hb := C.2.1
  have hl : lv_has ls 2 [(0, .ref (a 0)), (1, .int p1)] := hl
  rw [fX5_requirePoint] at hm
  refine lv_iload_n hx hb dX5_requirePoint_0 rfl (lv_at hl 1 rfl) ?_
  refine lv_if_lt (tgt := 12) hx hb dX5_requirePoint_1 (by decide) (fun hc => ?_) (fun hc => ?_)
  · have hm := ifp hc hm
    cases sm hm
    exact kxthrowW (E := 0) () (names := ["java/lang/RuntimeException", "java/lang/Exception"]) (ik := 94) (is := 288) (ic := 98) (text := "there is no such point") C htab X hl9 hl (by decide) (by decide) rfl (by decide) xw_X5_requirePoint_98.1 xw_X5_requirePoint_98.2.1 xw_X5_requirePoint_98.2.2.1 xw_X5_requirePoint_98.2.2.2.1 (by decide) xw_X5_requirePoint_98.2.2.2.2 dX5_requirePoint_12 dX5_requirePoint_15 dX5_requirePoint_16 dX5_requirePoint_19 dX5_requirePoint_22 (Nat.le_of_ble_eq_true rfl) (Nat.le_of_ble_eq_true rfl) (Nat.le_of_ble_eq_true rfl) (Nat.le_of_ble_eq_true rfl) (Nat.le_of_ble_eq_true rfl) (Nat.le_of_ble_eq_true rfl)
  · have hm := ifn hc hm
    refine lv_iload_n hx hb dX5_requirePoint_4 rfl (lv_at hl 1 rfl) ?_
    refine lv_aload_n hx hb dX5_requirePoint_5 rfl (lv_at hl 0 rfl) ?_
    obtain ⟨r1, hcl, hm⟩ := bnd hm
    refine kVp _ (pm_wh _) C X (kX3_size l g a u r1 hcl) (cw_X5_requirePoint_X3_size_91 C) 0 (ci := 3) rfl rfl (As := []) rfl hl (rest := [.int p1]) rfl (Nat.le_of_ble_eq_true rfl) (st2 := [.int r1, .int p1]) rfl dX5_requirePoint_6 ⟨Nat.le_of_ble_eq_true rfl, Nat.le_of_ble_eq_true rfl⟩ (w3 := wS g a u) (pm_wi _) (fun H locs X => ?_)
    clear hcl
    refine lv_icmp_lt (tgt := 23) hx hb dX5_requirePoint_9 (by decide) (fun hc => ?_) (fun hc => ?_)
    · have hm := ifp hc hm
      cases sm hm
      exact kxret () (Nat.le_of_ble_eq_true rfl) (Nat.le_of_ble_eq_true rfl) (kvret C X dX5_requirePoint_23)
    · have hm := ifn hc hm
      cases sm hm
      exact kxthrowW (E := 0) () (names := ["java/lang/RuntimeException", "java/lang/Exception"]) (ik := 94) (is := 288) (ic := 98) (text := "there is no such point") C htab X hl9 hl (by decide) (by decide) rfl (by decide) xw_X5_requirePoint_98.1 xw_X5_requirePoint_98.2.1 xw_X5_requirePoint_98.2.2.1 xw_X5_requirePoint_98.2.2.2.1 (by decide) xw_X5_requirePoint_98.2.2.2.2 dX5_requirePoint_12 dX5_requirePoint_15 dX5_requirePoint_16 dX5_requirePoint_19 dX5_requirePoint_22 (Nat.le_of_ble_eq_true rfl) (Nat.le_of_ble_eq_true rfl) (Nat.le_of_ble_eq_true rfl) (Nat.le_of_ble_eq_true rfl) (Nat.le_of_ble_eq_true rfl) (Nat.le_of_ble_eq_true rfl)
-- X5 BrushStrokes.requireStroke(I)V
abbrev rX5_requireStroke : Room := { frames := 6, cells := 1, slots := 6, locals := 90 }
theorem fl_X5_requireStroke_10 : (Cond.fieldLink RX5 10 "BrushStrokes" "sheet" "LBrushStrokes$Sheet;") ∈ wsX5_requireStroke := by decide +kernel
theorem in_X5_requireStroke_X5 : ∀ w ∈ u_ws RX5 TX5 5, w ∈ wsX5_requireStroke := by decide +kernel
theorem xw_X5_requireStroke_98 : (Cond.classLink RX5 94 (kEx 0)) ∈ wsX5_requireStroke ∧ (Cond.initialized (kEx 0)) ∈ wsX5_requireStroke ∧ (∀ w ∈ (vx_atS RX5 98 (kEx 0) ["java/lang/RuntimeException", "java/lang/Exception"]).filter goodWord, w ∈ wsX5_requireStroke) ∧ (∀ w ∈ (vx_atS RX5 98 (kEx 0) ["java/lang/RuntimeException", "java/lang/Exception"]).filter (fun w => !goodWord w), w ∈ Cond.castable (kEx 0) (kEx 0) :: kDecl.map Cond.declares) ∧ ∀ w ∈ Cond.classLink RX5 94 (kEx 0) :: Cond.initialized (kEx 0) :: vx_atS RX5 98 (kEx 0) ["java/lang/RuntimeException", "java/lang/Exception"], vx_ot w = true := by decide +kernel
theorem cw_X5_requireStroke_X1_strokeCount_62 {p : Program} {s : State} {m : MethodId} {args : Array Value} {meth : Method} {c : Code} {g : kG} {A : Nat → Prop} (C : CT g p s m args meth c RX5 cX5_requireStroke 2 none wsX5_requireStroke A) : CallW rX5_requireStroke s args RX5 RX1 62 yX1_strokeCount cX1_strokeCount 1 (some .int) wsX1_strokeCount rX1_strokeCount 0 0 0 := cwV 0 C.2.2.2.2.2.1 gX5_requireStroke_X1_strokeCount rfl rfl rfl (by decide +kernel) ⟨Nat.le_of_ble_eq_true rfl, Nat.le_of_ble_eq_true rfl⟩
noncomputable def fX5_requireStroke (p1 : Int32) (u : ShS) : Option ((Nat) ⊕ (Unit)) := if p1 < 0 then (some (.inl 0)) else ((fX1_strokeCount u).bind fun r1 => if p1 < r1 then (some (.inr ())) else (some (.inl 0)))
def obX5_requireStroke (g : kG) (D : Nat → Nat → Nat) (R : kAd) (u : ShS) (ts : TS) (bs : SS) (ps : PS) (hs : HS) (ns : NS) : (Nat) ⊕ (Unit) → kOut Unit
  | .inl E => .inl (E, fun _ => wB g D R u ts bs ps hs ns)
  | .inr _ => .inr (none, fun _ => wB g D R u ts bs ps hs ns)
set_option maxRecDepth 100000 in
set_option maxHeartbeats 4000000 in
theorem kX5_requireStroke (l : Launch) (hl9 : l.stackTraces = false) (g : kG) (D : Nat → Nat → Nat) (R : kAd) (p1 : Int32) (u : ShS) (ts : TS) (bs : SS) (ps : PS) (hs : HS) (ns : NS) (o : (Nat) ⊕ (Unit)) (hm : fX5_requireStroke p1 u = some o) : KX (S := Unit) l yX5_requireStroke wsX5_requireStroke rX5_requireStroke g [.ref (D 0 0), .int p1] (wB g D R u ts bs ps hs ns) (obX5_requireStroke g D R u ts bs ps hs ns o) 1 6 := by
  refine KX.of (nL := 2) (by decide) rfl (Nat.le_of_ble_eq_true rfl) ?_
  intro p e s m args below meth c A ls C htab X hl
  have C : CT g p s m args meth c RX5 cX5_requireStroke 2 none wsX5_requireStroke A := C
  have hx := C.1
  have hb := C.2.1
  have hl : lv_has ls 2 [(0, .ref (D 0 0)), (1, .int p1)] := hl
  have hinX5 := in_X5_requireStroke_X5
  have hf10 := C.2.2.2.2.2.1 _ fl_X5_requireStroke_10
  rw [fX5_requireStroke] at hm
  refine lv_iload_n hx hb dX5_requireStroke_0 rfl (lv_at hl 1 rfl) ?_
  refine lv_if_lt (tgt := 15) hx hb dX5_requireStroke_1 (by decide) (fun hc => ?_) (fun hc => ?_)
  · have hm := ifp hc hm
    cases sm hm
    exact kxthrowW (E := 0) () (names := ["java/lang/RuntimeException", "java/lang/Exception"]) (ik := 94) (is := 281) (ic := 98) (text := "there is no such stroke") C htab X hl9 hl (by decide) (by decide) rfl (by decide) xw_X5_requireStroke_98.1 xw_X5_requireStroke_98.2.1 xw_X5_requireStroke_98.2.2.1 xw_X5_requireStroke_98.2.2.2.1 (by decide) xw_X5_requireStroke_98.2.2.2.2 dX5_requireStroke_15 dX5_requireStroke_18 dX5_requireStroke_19 dX5_requireStroke_22 dX5_requireStroke_25 (Nat.le_of_ble_eq_true rfl) (Nat.le_of_ble_eq_true rfl) (Nat.le_of_ble_eq_true rfl) (Nat.le_of_ble_eq_true rfl) (Nat.le_of_ble_eq_true rfl) (Nat.le_of_ble_eq_true rfl)
  · have hm := ifn hc hm
    refine lv_iload_n hx hb dX5_requireStroke_4 rfl (lv_at hl 1 rfl) ?_
    refine lv_aload_n hx hb dX5_requireStroke_5 rfl (lv_at hl 0 rfl) ?_
    refine kget C X 0 (ci := 5) rfl rfl hinX5 0 (by decide) hf10 (v := .ref (D 1 0)) rfl dX5_requireStroke_6 ?_
    obtain ⟨r1, hcl, hm⟩ := bnd hm
    refine kVp _ b1_out C X (kX1_strokeCount l g (D 1) u r1 hcl) (cw_X5_requireStroke_X1_strokeCount_62 C) 0 (ci := 1) rfl rfl (As := []) rfl hl (rest := [.int p1]) rfl (Nat.le_of_ble_eq_true rfl) (st2 := [.int r1, .int p1]) rfl dX5_requireStroke_9 ⟨Nat.le_of_ble_eq_true rfl, Nat.le_of_ble_eq_true rfl⟩ (w3 := wB g D R u ts bs ps hs ns) (b1_in u) (fun H locs X => ?_)
    clear hcl
    refine lv_icmp_lt (tgt := 26) hx hb dX5_requireStroke_12 (by decide) (fun hc => ?_) (fun hc => ?_)
    · have hm := ifp hc hm
      cases sm hm
      exact kxret () (Nat.le_of_ble_eq_true rfl) (Nat.le_of_ble_eq_true rfl) (kvret C X dX5_requireStroke_26)
    · have hm := ifn hc hm
      cases sm hm
      exact kxthrowW (E := 0) () (names := ["java/lang/RuntimeException", "java/lang/Exception"]) (ik := 94) (is := 281) (ic := 98) (text := "there is no such stroke") C htab X hl9 hl (by decide) (by decide) rfl (by decide) xw_X5_requireStroke_98.1 xw_X5_requireStroke_98.2.1 xw_X5_requireStroke_98.2.2.1 xw_X5_requireStroke_98.2.2.2.1 (by decide) xw_X5_requireStroke_98.2.2.2.2 dX5_requireStroke_15 dX5_requireStroke_18 dX5_requireStroke_19 dX5_requireStroke_22 dX5_requireStroke_25 (Nat.le_of_ble_eq_true rfl) (Nat.le_of_ble_eq_true rfl) (Nat.le_of_ble_eq_true rfl) (Nat.le_of_ble_eq_true rfl) (Nat.le_of_ble_eq_true rfl) (Nat.le_of_ble_eq_true rfl)
-- X5 BrushStrokes.requireRoomForStroke()V
abbrev rX5_requireRoomForStroke : Room := { frames := 6, cells := 1, slots := 6, locals := 90 }
theorem fl_X5_requireRoomForStroke_10 : (Cond.fieldLink RX5 10 "BrushStrokes" "sheet" "LBrushStrokes$Sheet;") ∈ wsX5_requireRoomForStroke := by decide +kernel
theorem in_X5_requireRoomForStroke_X5 : ∀ w ∈ u_ws RX5 TX5 5, w ∈ wsX5_requireRoomForStroke := by decide +kernel
theorem xw_X5_requireRoomForStroke_107 : (Cond.classLink RX5 103 (kEx 2)) ∈ wsX5_requireRoomForStroke ∧ (Cond.initialized (kEx 2)) ∈ wsX5_requireRoomForStroke ∧ (∀ w ∈ (vx_atS RX5 107 (kEx 2) ["java/lang/RuntimeException", "java/lang/Exception"]).filter goodWord, w ∈ wsX5_requireRoomForStroke) ∧ (∀ w ∈ (vx_atS RX5 107 (kEx 2) ["java/lang/RuntimeException", "java/lang/Exception"]).filter (fun w => !goodWord w), w ∈ Cond.castable (kEx 2) (kEx 2) :: kDecl.map Cond.declares) ∧ ∀ w ∈ Cond.classLink RX5 103 (kEx 2) :: Cond.initialized (kEx 2) :: vx_atS RX5 107 (kEx 2) ["java/lang/RuntimeException", "java/lang/Exception"], vx_ot w = true := by decide +kernel
theorem cw_X5_requireRoomForStroke_X1_strokeCount_62 {p : Program} {s : State} {m : MethodId} {args : Array Value} {meth : Method} {c : Code} {g : kG} {A : Nat → Prop} (C : CT g p s m args meth c RX5 cX5_requireRoomForStroke 1 none wsX5_requireRoomForStroke A) : CallW rX5_requireRoomForStroke s args RX5 RX1 62 yX1_strokeCount cX1_strokeCount 1 (some .int) wsX1_strokeCount rX1_strokeCount 0 0 0 := cwV 0 C.2.2.2.2.2.1 gX5_requireRoomForStroke_X1_strokeCount rfl rfl rfl (by decide +kernel) ⟨Nat.le_of_ble_eq_true rfl, Nat.le_of_ble_eq_true rfl⟩
noncomputable def fX5_requireRoomForStroke (u : ShS) : Option ((Nat) ⊕ (Unit)) := (fX1_strokeCount u).bind fun r1 => if r1 < 4 then (some (.inr ())) else (some (.inl 2))
def obX5_requireRoomForStroke (g : kG) (D : Nat → Nat → Nat) (R : kAd) (u : ShS) (ts : TS) (bs : SS) (ps : PS) (hs : HS) (ns : NS) : (Nat) ⊕ (Unit) → kOut Unit
  | .inl E => .inl (E, fun _ => wB g D R u ts bs ps hs ns)
  | .inr _ => .inr (none, fun _ => wB g D R u ts bs ps hs ns)
set_option maxRecDepth 100000 in
set_option maxHeartbeats 4000000 in
theorem kX5_requireRoomForStroke (l : Launch) (hl9 : l.stackTraces = false) (g : kG) (D : Nat → Nat → Nat) (R : kAd) (u : ShS) (ts : TS) (bs : SS) (ps : PS) (hs : HS) (ns : NS) (o : (Nat) ⊕ (Unit)) (hm : fX5_requireRoomForStroke u = some o) : KX (S := Unit) l yX5_requireRoomForStroke wsX5_requireRoomForStroke rX5_requireRoomForStroke g [.ref (D 0 0)] (wB g D R u ts bs ps hs ns) (obX5_requireRoomForStroke g D R u ts bs ps hs ns o) 1 6 := by
  refine KX.of (nL := 1) (by decide) rfl (Nat.le_of_ble_eq_true rfl) ?_
  intro p e s m args below meth c A ls C htab X hl
  have C : CT g p s m args meth c RX5 cX5_requireRoomForStroke 1 none wsX5_requireRoomForStroke A := C
  have hx := C.1
  have hb := C.2.1
  have hl : lv_has ls 1 [(0, .ref (D 0 0))] := hl
  have hinX5 := in_X5_requireRoomForStroke_X5
  have hf10 := C.2.2.2.2.2.1 _ fl_X5_requireRoomForStroke_10
  rw [fX5_requireRoomForStroke] at hm
  refine lv_aload_n hx hb dX5_requireRoomForStroke_0 rfl (lv_at hl 0 rfl) ?_
  refine kget C X 0 (ci := 5) rfl rfl hinX5 0 (by decide) hf10 (v := .ref (D 1 0)) rfl dX5_requireRoomForStroke_1 ?_
  obtain ⟨r1, hcl, hm⟩ := bnd hm
  refine kVp _ b1_out C X (kX1_strokeCount l g (D 1) u r1 hcl) (cw_X5_requireRoomForStroke_X1_strokeCount_62 C) 0 (ci := 1) rfl rfl (As := []) rfl hl (rest := []) rfl (Nat.le_of_ble_eq_true rfl) (st2 := [.int r1]) rfl dX5_requireRoomForStroke_4 ⟨Nat.le_of_ble_eq_true rfl, Nat.le_of_ble_eq_true rfl⟩ (w3 := wB g D R u ts bs ps hs ns) (b1_in u) (fun H locs X => ?_)
  clear hcl
  refine lv_iconst (v := 4) hx hb dX5_requireRoomForStroke_7 (by decide) ?_
  refine lv_icmp_lt (tgt := 22) hx hb dX5_requireRoomForStroke_8 (by decide) (fun hc => ?_) (fun hc => ?_)
  · have hm := ifp hc hm
    cases sm hm
    exact kxret () (Nat.le_of_ble_eq_true rfl) (Nat.le_of_ble_eq_true rfl) (kvret C X dX5_requireRoomForStroke_22)
  · have hm := ifn hc hm
    cases sm hm
    exact kxthrowW (E := 2) () (names := ["java/lang/RuntimeException", "java/lang/Exception"]) (ik := 103) (is := 286) (ic := 107) (text := "there is no room for a stroke") C htab X hl9 hl (by decide) (by decide) rfl (by decide) xw_X5_requireRoomForStroke_107.1 xw_X5_requireRoomForStroke_107.2.1 xw_X5_requireRoomForStroke_107.2.2.1 xw_X5_requireRoomForStroke_107.2.2.2.1 (by decide) xw_X5_requireRoomForStroke_107.2.2.2.2 dX5_requireRoomForStroke_11 dX5_requireRoomForStroke_14 dX5_requireRoomForStroke_15 dX5_requireRoomForStroke_18 dX5_requireRoomForStroke_21 (Nat.le_of_ble_eq_true rfl) (Nat.le_of_ble_eq_true rfl) (Nat.le_of_ble_eq_true rfl) (Nat.le_of_ble_eq_true rfl) (Nat.le_of_ble_eq_true rfl) (Nat.le_of_ble_eq_true rfl)
-- X5 BrushStrokes.existingStroke(I)LBrushStrokes$Stroke;
abbrev rX5_existingStroke : Room := { frames := 7, cells := 1, slots := 6, locals := 111 }
theorem fl_X5_existingStroke_10 : (Cond.fieldLink RX5 10 "BrushStrokes" "sheet" "LBrushStrokes$Sheet;") ∈ wsX5_existingStroke := by decide +kernel
theorem in_X5_existingStroke_X5 : ∀ w ∈ u_ws RX5 TX5 5, w ∈ wsX5_existingStroke := by decide +kernel
theorem cw_X5_existingStroke_X1_strokeAt_283 {p : Program} {s : State} {m : MethodId} {args : Array Value} {meth : Method} {c : Code} {g : kG} {A : Nat → Prop} (C : CT g p s m args meth c RX5 cX5_existingStroke 2 (some (.object "BrushStrokes$Stroke")) wsX5_existingStroke A) : CallW rX5_existingStroke s args RX5 RX1 283 yX1_strokeAt cX1_strokeAt 3 (some (.object "BrushStrokes$Stroke")) wsX1_strokeAt rX1_strokeAt 0 0 1 := cwV 1 C.2.2.2.2.2.1 gX5_existingStroke_X1_strokeAt rfl rfl rfl (by decide +kernel) ⟨Nat.le_of_ble_eq_true rfl, Nat.le_of_ble_eq_true rfl⟩
theorem cw_X5_existingStroke_X5_requireStroke_134 {p : Program} {s : State} {m : MethodId} {args : Array Value} {meth : Method} {c : Code} {g : kG} {A : Nat → Prop} (C : CT g p s m args meth c RX5 cX5_existingStroke 2 (some (.object "BrushStrokes$Stroke")) wsX5_existingStroke A) : CallW rX5_existingStroke s args RX5 RX5 134 yX5_requireStroke cX5_requireStroke 2 none wsX5_requireStroke rX5_requireStroke 1 6 1 := cwV 1 C.2.2.2.2.2.1 gX5_existingStroke_X5_requireStroke rfl rfl rfl (by decide +kernel) ⟨Nat.le_of_ble_eq_true rfl, Nat.le_of_ble_eq_true rfl⟩
noncomputable def fX5_existingStroke (p1 : Int32) (u : ShS) : Option ((Nat) ⊕ (Nat)) := (fX5_requireStroke p1 u).bind fun q => Sum.elim (fun E => some (.inl E)) (fun _ => (fX1_strokeAt p1 u).bind fun q1 => some (.inr q1)) q
def obX5_existingStroke (g : kG) (D : Nat → Nat → Nat) (R : kAd) (u : ShS) (ts : TS) (bs : SS) (ps : PS) (hs : HS) (ns : NS) : (Nat) ⊕ (Nat) → kOut Unit
  | .inl E => .inl (E, fun _ => wB g D R u ts bs ps hs ns)
  | .inr v => .inr ((some (.ref (D 1 (3 + 2 * v)))), fun _ => wB g D R u ts bs ps hs ns)
set_option maxRecDepth 100000 in
set_option maxHeartbeats 4000000 in
theorem kX5_existingStroke (l : Launch) (hl9 : l.stackTraces = false) (g : kG) (D : Nat → Nat → Nat) (R : kAd) (p1 : Int32) (u : ShS) (ts : TS) (bs : SS) (ps : PS) (hs : HS) (ns : NS) (o : (Nat) ⊕ (Nat)) (hm : fX5_existingStroke p1 u = some o) : KX (S := Unit) l yX5_existingStroke wsX5_existingStroke rX5_existingStroke g [.ref (D 0 0), .int p1] (wB g D R u ts bs ps hs ns) (obX5_existingStroke g D R u ts bs ps hs ns o) 1 6 := by
  refine KX.of (nL := 2) (by decide) rfl (Nat.le_of_ble_eq_true rfl) ?_
  intro p e s m args below meth c A ls C htab X hl
  have C : CT g p s m args meth c RX5 cX5_existingStroke 2 (some (.object "BrushStrokes$Stroke")) wsX5_existingStroke A := C
  have hx := C.1
  have hb := C.2.1
  have hl : lv_has ls 2 [(0, .ref (D 0 0)), (1, .int p1)] := hl
  have hinX5 := in_X5_existingStroke_X5
  have hf10 := C.2.2.2.2.2.1 _ fl_X5_existingStroke_10
  rw [fX5_existingStroke] at hm
  refine lv_aload_n hx hb dX5_existingStroke_0 rfl (lv_at hl 0 rfl) ?_
  refine lv_iload_n hx hb dX5_existingStroke_1 rfl (lv_at hl 1 rfl) ?_
  obtain ⟨q, hcl, hm⟩ := bnd hm
  rcases q with E | ⟨⟩
  · have hm := se_l hm
    cases sm hm
    exact kxVt _ (pm_wh _) C htab X (kX5_requireStroke l hl9 g D R p1 u ts bs ps hs ns (.inl E) hcl) (cw_X5_existingStroke_X5_requireStroke_134 C) 0 (ci := 5) rfl rfl (As := [.int p1]) rfl hl (rest := []) rfl (Nat.le_of_ble_eq_true rfl) dX5_existingStroke_2 ⟨Nat.le_of_ble_eq_true rfl, Nat.le_of_ble_eq_true rfl⟩ (Nat.le_of_ble_eq_true rfl) (Nat.le_of_ble_eq_true rfl) (fun _ => ⟨(), (pm_wi _)⟩)
  have hm := se_r hm
  refine kxV _ (pm_wh _) C X (kX5_requireStroke l hl9 g D R p1 u ts bs ps hs ns (.inr ()) hcl) (cw_X5_existingStroke_X5_requireStroke_134 C) 0 (ci := 5) rfl rfl (As := [.int p1]) rfl hl (rest := []) rfl (Nat.le_of_ble_eq_true rfl) (st2 := []) rfl dX5_existingStroke_2 ⟨Nat.le_of_ble_eq_true rfl, Nat.le_of_ble_eq_true rfl⟩ (w3 := (fun _ => wB g D R u ts bs ps hs ns)) (fun _ => (pm_wi _)) (fun _ H locs X => ?_)
  clear hcl
  refine lv_aload_n hx hb dX5_existingStroke_5 rfl (lv_at hl 0 rfl) ?_
  refine kget C X 0 (ci := 5) rfl rfl hinX5 0 (by decide) hf10 (v := .ref (D 1 0)) rfl dX5_existingStroke_6 ?_
  refine lv_iload_n hx hb dX5_existingStroke_9 rfl (lv_at hl 1 rfl) ?_
  obtain ⟨q1, hcl, hm⟩ := bnd hm
  refine kVp _ b1_out C X (kX1_strokeAt l g (D 1) p1 u q1 hcl) (cw_X5_existingStroke_X1_strokeAt_283 C) 0 (ci := 1) rfl rfl (As := [.int p1]) rfl hl (rest := []) rfl (Nat.le_of_ble_eq_true rfl) (st2 := [.ref (D 1 (3 + 2 * q1))]) rfl dX5_existingStroke_10 ⟨Nat.le_of_ble_eq_true rfl, Nat.le_of_ble_eq_true rfl⟩ (w3 := wB g D R u ts bs ps hs ns) (b1_in u) (fun H locs X => ?_)
  clear hcl
  cases sm hm
  exact kxret () (Nat.le_of_ble_eq_true rfl) (Nat.le_of_ble_eq_true rfl) (karet C X dX5_existingStroke_13)
