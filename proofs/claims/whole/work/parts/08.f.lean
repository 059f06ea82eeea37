-- X5 BrushStrokes.point(III)I
abbrev rX5_point : Room := { frames := 8, cells := 3, slots := 18, locals := 132 }
theorem fl_X5_point_10 : (Cond.fieldLink RX5 10 "BrushStrokes" "sheet" "LBrushStrokes$Sheet;") ∈ wsX5_point := by decide +kernel
theorem in_X5_point_X5 : ∀ w ∈ u_ws RX5 TX5 5, w ∈ wsX5_point := by decide +kernel
theorem xw_X5_point_74 : (Cond.classLink RX5 70 (kEx 1)) ∈ wsX5_point ∧ (Cond.initialized (kEx 1)) ∈ wsX5_point ∧ (∀ w ∈ (vx_atS RX5 74 (kEx 1) ["java/lang/RuntimeException", "java/lang/Exception"]).filter goodWord, w ∈ wsX5_point) ∧ (∀ w ∈ (vx_atS RX5 74 (kEx 1) ["java/lang/RuntimeException", "java/lang/Exception"]).filter (fun w => !goodWord w), w ∈ Cond.castable (kEx 1) (kEx 1) :: kDecl.map Cond.declares) ∧ ∀ w ∈ Cond.classLink RX5 70 (kEx 1) :: Cond.initialized (kEx 1) :: vx_atS RX5 74 (kEx 1) ["java/lang/RuntimeException", "java/lang/Exception"], vx_ot w = true := by decide +kernel
theorem cw_X5_point_X5_requirePoint_112 {p : Program} {s : State} {m : MethodId} {args : Array Value} {meth : Method} {c : Code} {g : kG} {A : Nat → Prop} (C : CT g p s m args meth c RX5 cX5_point 5 (some .int) wsX5_point A) : CallB rX5_point s args RX5 112 yX5_requirePoint cX5_requirePoint 2 none wsX5_requirePoint rX5_requirePoint 1 6 2 ∧ (Cond.static yX5_requirePoint).before args s = true := va_cwS 2 C.2.2.2.2.2.1 gX5_point_X5_requirePoint rfl rfl rfl (by decide +kernel) ⟨Nat.le_of_ble_eq_true rfl, Nat.le_of_ble_eq_true rfl⟩
theorem cw_X5_point_X1_value_147 {p : Program} {s : State} {m : MethodId} {args : Array Value} {meth : Method} {c : Code} {g : kG} {A : Nat → Prop} (C : CT g p s m args meth c RX5 cX5_point 5 (some .int) wsX5_point A) : CallW rX5_point s args RX5 RX1 147 yX1_value cX1_value 2 (some .int) wsX1_value rX1_value 0 0 1 := cwV 1 C.2.2.2.2.2.1 gX5_point_X1_value rfl rfl rfl (by decide +kernel) ⟨Nat.le_of_ble_eq_true rfl, Nat.le_of_ble_eq_true rfl⟩
theorem cw_X5_point_X3_kind_216 {p : Program} {s : State} {m : MethodId} {args : Array Value} {meth : Method} {c : Code} {g : kG} {A : Nat → Prop} (C : CT g p s m args meth c RX5 cX5_point 5 (some .int) wsX5_point A) : CallW rX5_point s args RX5 RX3 216 yX3_kind cX3_kind 4 (some .int) wsX3_kind rX3_kind 0 0 3 := cwV 3 C.2.2.2.2.2.1 gX5_point_X3_kind rfl rfl rfl (by decide +kernel) ⟨Nat.le_of_ble_eq_true rfl, Nat.le_of_ble_eq_true rfl⟩
theorem cw_X5_point_X3_stray_220 {p : Program} {s : State} {m : MethodId} {args : Array Value} {meth : Method} {c : Code} {g : kG} {A : Nat → Prop} (C : CT g p s m args meth c RX5 cX5_point 5 (some .int) wsX5_point A) : CallW rX5_point s args RX5 RX3 220 yX3_stray cX3_stray 2 (some .int) wsX3_stray rX3_stray 0 0 1 := cwV 1 C.2.2.2.2.2.1 gX5_point_X3_stray rfl rfl rfl (by decide +kernel) ⟨Nat.le_of_ble_eq_true rfl, Nat.le_of_ble_eq_true rfl⟩
theorem cw_X5_point_X5_existingStroke_87 {p : Program} {s : State} {m : MethodId} {args : Array Value} {meth : Method} {c : Code} {g : kG} {A : Nat → Prop} (C : CT g p s m args meth c RX5 cX5_point 5 (some .int) wsX5_point A) : CallW rX5_point s args RX5 RX5 87 yX5_existingStroke cX5_existingStroke 2 (some (.object "BrushStrokes$Stroke")) wsX5_existingStroke rX5_existingStroke 1 6 1 := cwV 1 C.2.2.2.2.2.1 gX5_point_X5_existingStroke rfl rfl rfl (by decide +kernel) ⟨Nat.le_of_ble_eq_true rfl, Nat.le_of_ble_eq_true rfl⟩
theorem cw_X5_point_X3_x_116 {p : Program} {s : State} {m : MethodId} {args : Array Value} {meth : Method} {c : Code} {g : kG} {A : Nat → Prop} (C : CT g p s m args meth c RX5 cX5_point 5 (some .int) wsX5_point A) : CallW rX5_point s args RX5 RX3 116 yX3_x cX3_x 3 (some .int) wsX3_x rX3_x 0 0 1 := cwV 1 C.2.2.2.2.2.1 gX5_point_X3_x rfl rfl rfl (by decide +kernel) ⟨Nat.le_of_ble_eq_true rfl, Nat.le_of_ble_eq_true rfl⟩
theorem cw_X5_point_X3_y_120 {p : Program} {s : State} {m : MethodId} {args : Array Value} {meth : Method} {c : Code} {g : kG} {A : Nat → Prop} (C : CT g p s m args meth c RX5 cX5_point 5 (some .int) wsX5_point A) : CallW rX5_point s args RX5 RX3 120 yX3_y cX3_y 3 (some .int) wsX3_y rX3_y 0 0 1 := cwV 1 C.2.2.2.2.2.1 gX5_point_X3_y rfl rfl rfl (by decide +kernel) ⟨Nat.le_of_ble_eq_true rfl, Nat.le_of_ble_eq_true rfl⟩
theorem cw_X5_point_X3_width_209 {p : Program} {s : State} {m : MethodId} {args : Array Value} {meth : Method} {c : Code} {g : kG} {A : Nat → Prop} (C : CT g p s m args meth c RX5 cX5_point 5 (some .int) wsX5_point A) : CallW rX5_point s args RX5 RX3 209 yX3_width cX3_width 3 (some .int) wsX3_width rX3_width 0 0 1 := cwV 1 C.2.2.2.2.2.1 gX5_point_X3_width rfl rfl rfl (by decide +kernel) ⟨Nat.le_of_ble_eq_true rfl, Nat.le_of_ble_eq_true rfl⟩
theorem cw_X5_point_X3_isKept_212 {p : Program} {s : State} {m : MethodId} {args : Array Value} {meth : Method} {c : Code} {g : kG} {A : Nat → Prop} (C : CT g p s m args meth c RX5 cX5_point 5 (some .int) wsX5_point A) : CallW rX5_point s args RX5 RX3 212 yX3_isKept cX3_isKept 2 (some .boolean) wsX3_isKept rX3_isKept 0 0 1 := cwV 1 C.2.2.2.2.2.1 gX5_point_X3_isKept rfl rfl rfl (by decide +kernel) ⟨Nat.le_of_ble_eq_true rfl, Nat.le_of_ble_eq_true rfl⟩
noncomputable def fX5_point (p1 : Int32) (p2 : Int32) (p3 : Int32) (u : ShS) : Option ((Nat) ⊕ (Int32)) := (fX5_existingStroke p1 u).bind fun q => Sum.elim (fun E => some (.inl E)) (fun q1 => gd (decide (q1 < 5)) ((fX5_requirePoint p2 (Sh_st u q1)).bind fun q => Sum.elim (fun E => some (.inl E)) (fun _ => if p3 = 0 then (gd (decide (q1 < 5)) ((fX3_x p2 (Sh_st u q1)).bind fun r2 => some (.inr r2))) else (if p3 = 1 then (gd (decide (q1 < 5)) ((fX3_y p2 (Sh_st u q1)).bind fun r3 => some (.inr r3))) else (if p3 = 2 then (gd (decide (q1 < 5)) ((fX3_width p2 (Sh_st u q1)).bind fun r4 => some (.inr r4))) else (if p3 = 3 then (gd (decide (q1 < 5)) ((fX3_isKept p2 (Sh_st u q1)).bind fun r5 => ((if r5 = 0 then (some 0) else (some 1)) : Option (Int32)).bind fun v6 => some (.inr v6))) else (if p3 = 4 then ((fX1_value 1 u).bind fun r7 => (fX1_value 2 u).bind fun r8 => gd (decide (q1 < 5)) ((fX3_kind p2 r7 r8 (Sh_st u q1)).bind fun r9 => some (.inr r9))) else (if p3 = 5 then (gd (decide (q1 < 5)) ((fX3_stray p2 (Sh_st u q1)).bind fun r10 => some (.inr r10))) else (some (.inl 1)))))))) q)) q
def obX5_point (g : kG) (D : Nat → Nat → Nat) (R : kAd) (u : ShS) (ts : TS) (bs : SS) (ps : PS) (hs : HS) (ns : NS) : (Nat) ⊕ (Int32) → kOut Unit
  | .inl E => .inl (E, fun _ => wB g D R u ts bs ps hs ns)
  | .inr v => .inr ((some (.int v)), fun _ => wB g D R u ts bs ps hs ns)
set_option maxRecDepth 100000 in
set_option maxHeartbeats 4000000 in
theorem kX5_point (l : Launch) (hl9 : l.stackTraces = false) (g : kG) (D : Nat → Nat → Nat) (R : kAd) (p1 : Int32) (p2 : Int32) (p3 : Int32) (u : ShS) (ts : TS) (bs : SS) (ps : PS) (hs : HS) (ns : NS) (o : (Nat) ⊕ (Int32)) (hm : fX5_point p1 p2 p3 u = some o) : KX (S := Unit) l yX5_point wsX5_point rX5_point g [.ref (D 0 0), .int p1, .int p2, .int p3] (wB g D R u ts bs ps hs ns) (obX5_point g D R u ts bs ps hs ns o) 3 18 := by
  refine KX.of (nL := 5) (by decide) rfl (Nat.le_of_ble_eq_true rfl) ?_
  intro p e s m args below meth c A ls C htab X hl
  have C : CT g p s m args meth c RX5 cX5_point 5 (some .int) wsX5_point A := C
  have hx := C.1
  have hb := C.2.1
  have hl : lv_has ls 5 [(0, .ref (D 0 0)), (1, .int p1), (2, .int p2), (3, .int p3)] := hl
  have hinX5 := in_X5_point_X5
  have hf10 := C.2.2.2.2.2.1 _ fl_X5_point_10
  rw [fX5_point] at hm
  refine lv_aload_n hx hb dX5_point_0 rfl (lv_at hl 0 rfl) ?_
  refine lv_iload_n hx hb dX5_point_1 rfl (lv_at hl 1 rfl) ?_
  obtain ⟨q, hcl, hm⟩ := bnd hm
  rcases q with E | q1
  · have hm := se_l hm
    cases sm hm
    exact kxVt _ (pm_wh _) C htab X (kX5_existingStroke l hl9 g D R p1 u ts bs ps hs ns (.inl E) hcl) (cw_X5_point_X5_existingStroke_87 C) 0 (ci := 5) rfl rfl (As := [.int p1]) rfl hl (rest := []) rfl (Nat.le_of_ble_eq_true rfl) dX5_point_2 ⟨Nat.le_of_ble_eq_true rfl, Nat.le_of_ble_eq_true rfl⟩ (Nat.le_of_ble_eq_true rfl) (Nat.le_of_ble_eq_true rfl) (fun _ => ⟨(), (pm_wi _)⟩)
  have hm := se_r hm
  refine kxV _ (pm_wh _) C X (kX5_existingStroke l hl9 g D R p1 u ts bs ps hs ns (.inr q1) hcl) (cw_X5_point_X5_existingStroke_87 C) 0 (ci := 5) rfl rfl (As := [.int p1]) rfl hl (rest := []) rfl (Nat.le_of_ble_eq_true rfl) (st2 := [.ref (D 1 (3 + 2 * q1))]) rfl dX5_point_2 ⟨Nat.le_of_ble_eq_true rfl, Nat.le_of_ble_eq_true rfl⟩ (w3 := (fun _ => wB g D R u ts bs ps hs ns)) (fun _ => (pm_wi _)) (fun _ H locs X => ?_)
  clear hcl
  refine lv_astore (lv' := [(4, .ref (D 1 (3 + 2 * q1))), (0, .ref (D 0 0)), (1, .int p1), (2, .int p2), (3, .int p3)]) hx hb dX5_point_5 hl (by decide) rfl (fun ls hl => ?_)
  refine lv_aload hx hb dX5_point_7 (lv_at hl 0 rfl) ?_
  refine lv_iload_n hx hb dX5_point_9 rfl (lv_at hl 3 rfl) ?_
  obtain ⟨hgk, hm⟩ := gd_t hm
  have hgk := of_decide_eq_true hgk
  obtain ⟨q, hcl, hm⟩ := bnd hm
  rcases q with E | ⟨⟩
  · have hm := se_l hm
    cases sm hm
    exact kxSt _ (bs_out hgk) C htab X (kX5_requirePoint l hl9 g (sa (D 1) q1) p2 (Sh_st u q1) (.inl E) hcl) (cw_X5_point_X5_requirePoint_112 C) (As := [.ref (D 1 (3 + 2 * q1)), .int p2]) rfl hl (rest := []) rfl (Nat.le_of_ble_eq_true rfl) dX5_point_10 ⟨Nat.le_of_ble_eq_true rfl, Nat.le_of_ble_eq_true rfl⟩ (Nat.le_of_ble_eq_true rfl) (Nat.le_of_ble_eq_true rfl) (fun _ => ⟨(), (bs_in0 hgk)⟩)
  have hm := se_r hm
  refine kxS _ (bs_out hgk) C X (kX5_requirePoint l hl9 g (sa (D 1) q1) p2 (Sh_st u q1) (.inr ()) hcl) (cw_X5_point_X5_requirePoint_112 C) (As := [.ref (D 1 (3 + 2 * q1)), .int p2]) rfl hl (rest := []) rfl (Nat.le_of_ble_eq_true rfl) (st2 := []) rfl dX5_point_10 ⟨Nat.le_of_ble_eq_true rfl, Nat.le_of_ble_eq_true rfl⟩ (w3 := (fun _ => wB g D R u ts bs ps hs ns)) (fun _ => (bs_in0 hgk)) (fun _ H locs X => ?_)
  clear hcl
  refine lv_iload_n hx hb dX5_point_13 rfl (lv_at hl 4 rfl) ?_
  by_cases hc0 : p3 = 0
  · have hm := ifp hc0 hm
    refine lv_tableIn (off := 38) (tgt := 52) hx hb dX5_point_14 (by rw [hc0]; decide) (by rw [hc0]; decide) (by rw [hc0]; rfl) (by decide) ?_
    refine lv_aload hx hb dX5_point_52 (lv_at hl 0 rfl) ?_
    refine lv_iload_n hx hb dX5_point_54 rfl (lv_at hl 3 rfl) ?_
    obtain ⟨hgk, hm⟩ := gd_t hm
    have hgk := of_decide_eq_true hgk
    obtain ⟨r2, hcl, hm⟩ := bnd hm
    refine kVp _ (bs_out hgk) C X (kX3_x l g (sa (D 1) q1) p2 (Sh_st u q1) r2 hcl) (cw_X5_point_X3_x_116 C) 0 (ci := 3) rfl rfl (As := [.int p2]) rfl hl (rest := []) rfl (Nat.le_of_ble_eq_true rfl) (st2 := [.int r2]) rfl dX5_point_55 ⟨Nat.le_of_ble_eq_true rfl, Nat.le_of_ble_eq_true rfl⟩ (w3 := wB g D R u ts bs ps hs ns) (bs_in0 hgk) (fun H locs X => ?_)
    clear hcl
    cases sm hm
    exact kxret () (Nat.le_of_ble_eq_true rfl) (Nat.le_of_ble_eq_true rfl) (kiret C X dX5_point_58)
  · have hm := ifn hc0 hm
    by_cases hc1 : p3 = 1
    · have hm := ifp hc1 hm
      refine lv_tableIn (off := 45) (tgt := 59) hx hb dX5_point_14 (by rw [hc1]; decide) (by rw [hc1]; decide) (by rw [hc1]; rfl) (by decide) ?_
      refine lv_aload hx hb dX5_point_59 (lv_at hl 0 rfl) ?_
      refine lv_iload_n hx hb dX5_point_61 rfl (lv_at hl 3 rfl) ?_
      obtain ⟨hgk, hm⟩ := gd_t hm
      have hgk := of_decide_eq_true hgk
      obtain ⟨r3, hcl, hm⟩ := bnd hm
      refine kVp _ (bs_out hgk) C X (kX3_y l g (sa (D 1) q1) p2 (Sh_st u q1) r3 hcl) (cw_X5_point_X3_y_120 C) 0 (ci := 3) rfl rfl (As := [.int p2]) rfl hl (rest := []) rfl (Nat.le_of_ble_eq_true rfl) (st2 := [.int r3]) rfl dX5_point_62 ⟨Nat.le_of_ble_eq_true rfl, Nat.le_of_ble_eq_true rfl⟩ (w3 := wB g D R u ts bs ps hs ns) (bs_in0 hgk) (fun H locs X => ?_)
      clear hcl
      cases sm hm
      exact kxret () (Nat.le_of_ble_eq_true rfl) (Nat.le_of_ble_eq_true rfl) (kiret C X dX5_point_65)
    · have hm := ifn hc1 hm
      by_cases hc2 : p3 = 2
      · have hm := ifp hc2 hm
        refine lv_tableIn (off := 52) (tgt := 66) hx hb dX5_point_14 (by rw [hc2]; decide) (by rw [hc2]; decide) (by rw [hc2]; rfl) (by decide) ?_
        refine lv_aload hx hb dX5_point_66 (lv_at hl 0 rfl) ?_
        refine lv_iload_n hx hb dX5_point_68 rfl (lv_at hl 3 rfl) ?_
        obtain ⟨hgk, hm⟩ := gd_t hm
        have hgk := of_decide_eq_true hgk
        obtain ⟨r4, hcl, hm⟩ := bnd hm
        refine kVp _ (bs_out hgk) C X (kX3_width l g (sa (D 1) q1) p2 (Sh_st u q1) r4 hcl) (cw_X5_point_X3_width_209 C) 0 (ci := 3) rfl rfl (As := [.int p2]) rfl hl (rest := []) rfl (Nat.le_of_ble_eq_true rfl) (st2 := [.int r4]) rfl dX5_point_69 ⟨Nat.le_of_ble_eq_true rfl, Nat.le_of_ble_eq_true rfl⟩ (w3 := wB g D R u ts bs ps hs ns) (bs_in0 hgk) (fun H locs X => ?_)
        clear hcl
        cases sm hm
        exact kxret () (Nat.le_of_ble_eq_true rfl) (Nat.le_of_ble_eq_true rfl) (kiret C X dX5_point_72)
      · have hm := ifn hc2 hm
        by_cases hc3 : p3 = 3
        · have hm := ifp hc3 hm
          refine lv_tableIn (off := 59) (tgt := 73) hx hb dX5_point_14 (by rw [hc3]; decide) (by rw [hc3]; decide) (by rw [hc3]; rfl) (by decide) ?_
          refine lv_aload hx hb dX5_point_73 (lv_at hl 0 rfl) ?_
          refine lv_iload_n hx hb dX5_point_75 rfl (lv_at hl 3 rfl) ?_
          obtain ⟨hgk, hm⟩ := gd_t hm
          have hgk := of_decide_eq_true hgk
          obtain ⟨r5, hcl, hm⟩ := bnd hm
          refine kVp _ (bs_out hgk) C X (kX3_isKept l g (sa (D 1) q1) p2 (Sh_st u q1) r5 hcl) (cw_X5_point_X3_isKept_212 C) 0 (ci := 3) rfl rfl (As := [.int p2]) rfl hl (rest := []) rfl (Nat.le_of_ble_eq_true rfl) (st2 := [.int r5]) rfl dX5_point_76 ⟨Nat.le_of_ble_eq_true rfl, Nat.le_of_ble_eq_true rfl⟩ (w3 := wB g D R u ts bs ps hs ns) (bs_in0 hgk) (fun H locs X => ?_)
          clear hcl
          obtain ⟨v6, hE, hm⟩ := bnd hm
          have K : ∀ (H : Heap) (locs : List Loc) (ls : Array Slot), ST g A s H locs (wB g D R u ts bs ps hs ns) → lv_has ls 5 [] → W p l e rX5_point s m args below meth c H locs 2 12 (kEndX g below args s (obX5_point g D R u ts bs ps hs ns o) A 3 18) (F0 m 87 ls [.int v6]) := by
            intro H locs ls X hl
            clear hE
            cases sm hm
            exact kxret () (Nat.le_of_ble_eq_true rfl) (Nat.le_of_ble_eq_true rfl) (kiret C X dX5_point_87)
          clear hm
          have hm := hE
          clear hE
          refine lv_if_eq (tgt := 86) hx hb dX5_point_79 (by decide) (fun hc => ?_) (fun hc => ?_)
          · have hm := ifp hc hm
            refine lv_iconst (v := 0) hx hb dX5_point_86 (by decide) ?_
            cases sm hm
            exact K _ _ _ X (lv_sub hl [] rfl)
          · have hm := ifn hc hm
            refine lv_iconst (v := 1) hx hb dX5_point_82 (by decide) ?_
            refine lv_goto (tgt := 87) hx hb dX5_point_83 (by decide) ?_
            cases sm hm
            exact K _ _ _ X (lv_sub hl [] rfl)
        · have hm := ifn hc3 hm
          by_cases hc4 : p3 = 4
          · have hm := ifp hc4 hm
            refine lv_tableIn (off := 74) (tgt := 88) hx hb dX5_point_14 (by rw [hc4]; decide) (by rw [hc4]; decide) (by rw [hc4]; rfl) (by decide) ?_
            refine lv_aload hx hb dX5_point_88 (lv_at hl 0 rfl) ?_
            refine lv_iload_n hx hb dX5_point_90 rfl (lv_at hl 3 rfl) ?_
            refine lv_aload_n hx hb dX5_point_91 rfl (lv_at hl 1 rfl) ?_
            refine kget C X 0 (ci := 5) rfl rfl hinX5 0 (by decide) hf10 (v := .ref (D 1 0)) rfl dX5_point_92 ?_
            refine lv_iconst (v := 1) hx hb dX5_point_95 (by decide) ?_
            obtain ⟨r7, hcl, hm⟩ := bnd hm
            refine kVp _ b1_out C X (kX1_value l g (D 1) 1 u r7 hcl) (cw_X5_point_X1_value_147 C) 0 (ci := 1) rfl rfl (As := [.int 1]) rfl hl (rest := [.int p2, .ref (D 1 (3 + 2 * q1))]) rfl (Nat.le_of_ble_eq_true rfl) (st2 := [.int r7, .int p2, .ref (D 1 (3 + 2 * q1))]) rfl dX5_point_96 ⟨Nat.le_of_ble_eq_true rfl, Nat.le_of_ble_eq_true rfl⟩ (w3 := wB g D R u ts bs ps hs ns) (b1_in u) (fun H locs X => ?_)
            clear hcl
            refine lv_aload_n hx hb dX5_point_99 rfl (lv_at hl 1 rfl) ?_
            refine kget C X 0 (ci := 5) rfl rfl hinX5 0 (by decide) hf10 (v := .ref (D 1 0)) rfl dX5_point_100 ?_
            refine lv_iconst (v := 2) hx hb dX5_point_103 (by decide) ?_
            obtain ⟨r8, hcl, hm⟩ := bnd hm
            refine kVp _ b1_out C X (kX1_value l g (D 1) 2 u r8 hcl) (cw_X5_point_X1_value_147 C) 0 (ci := 1) rfl rfl (As := [.int 2]) rfl hl (rest := [.int r7, .int p2, .ref (D 1 (3 + 2 * q1))]) rfl (Nat.le_of_ble_eq_true rfl) (st2 := [.int r8, .int r7, .int p2, .ref (D 1 (3 + 2 * q1))]) rfl dX5_point_104 ⟨Nat.le_of_ble_eq_true rfl, Nat.le_of_ble_eq_true rfl⟩ (w3 := wB g D R u ts bs ps hs ns) (b1_in u) (fun H locs X => ?_)
            clear hcl
            obtain ⟨hgk, hm⟩ := gd_t hm
            have hgk := of_decide_eq_true hgk
            obtain ⟨r9, hcl, hm⟩ := bnd hm
            refine kVp _ (bs_out hgk) C X (kX3_kind l g (sa (D 1) q1) p2 r7 r8 (Sh_st u q1) r9 hcl) (cw_X5_point_X3_kind_216 C) 0 (ci := 3) rfl rfl (As := [.int p2, .int r7, .int r8]) rfl hl (rest := []) rfl (Nat.le_of_ble_eq_true rfl) (st2 := [.int r9]) rfl dX5_point_107 ⟨Nat.le_of_ble_eq_true rfl, Nat.le_of_ble_eq_true rfl⟩ (w3 := wB g D R u ts bs ps hs ns) (bs_in0 hgk) (fun H locs X => ?_)
            clear hcl
            cases sm hm
            exact kxret () (Nat.le_of_ble_eq_true rfl) (Nat.le_of_ble_eq_true rfl) (kiret C X dX5_point_110)
          · have hm := ifn hc4 hm
            by_cases hc5 : p3 = 5
            · have hm := ifp hc5 hm
              refine lv_tableIn (off := 97) (tgt := 111) hx hb dX5_point_14 (by rw [hc5]; decide) (by rw [hc5]; decide) (by rw [hc5]; rfl) (by decide) ?_
              refine lv_aload hx hb dX5_point_111 (lv_at hl 0 rfl) ?_
              refine lv_iload_n hx hb dX5_point_113 rfl (lv_at hl 3 rfl) ?_
              obtain ⟨hgk, hm⟩ := gd_t hm
              have hgk := of_decide_eq_true hgk
              obtain ⟨r10, hcl, hm⟩ := bnd hm
              refine kVp _ (bs_out hgk) C X (kX3_stray l g (sa (D 1) q1) p2 (Sh_st u q1) r10 hcl) (cw_X5_point_X3_stray_220 C) 0 (ci := 3) rfl rfl (As := [.int p2]) rfl hl (rest := []) rfl (Nat.le_of_ble_eq_true rfl) (st2 := [.int r10]) rfl dX5_point_114 ⟨Nat.le_of_ble_eq_true rfl, Nat.le_of_ble_eq_true rfl⟩ (w3 := wB g D R u ts bs ps hs ns) (bs_in0 hgk) (fun H locs X => ?_)
              clear hcl
              cases sm hm
              exact kxret () (Nat.le_of_ble_eq_true rfl) (Nat.le_of_ble_eq_true rfl) (kiret C X dX5_point_117)
            · have hm := ifn hc5 hm
              refine lv_tableOut (tgt := 118) hx hb dX5_point_14 (tb_out6 hc0 hc1 hc2 hc3 hc4 hc5) (by decide) ?_
              cases sm hm
              exact kxthrow (E := 1) () (names := ["java/lang/RuntimeException", "java/lang/Exception"]) (ik := 70) (is := 223) (ic := 74) (text := "a point has no such number") C htab X hl9 hl (by decide) (by decide) rfl (by decide) xw_X5_point_74.1 xw_X5_point_74.2.1 xw_X5_point_74.2.2.1 xw_X5_point_74.2.2.2.1 (by decide) xw_X5_point_74.2.2.2.2 dX5_point_118 dX5_point_121 dX5_point_122 dX5_point_124 dX5_point_127 (Nat.le_of_ble_eq_true rfl) (Nat.le_of_ble_eq_true rfl) (Nat.le_of_ble_eq_true rfl) (Nat.le_of_ble_eq_true rfl) (Nat.le_of_ble_eq_true rfl) (Nat.le_of_ble_eq_true rfl)
-- X5 BrushStrokes.strokeOf(II)I
abbrev rX5_strokeOf : Room := { frames := 8, cells := 2, slots := 12, locals := 140 }
theorem fl_X5_strokeOf_10 : (Cond.fieldLink RX5 10 "BrushStrokes" "sheet" "LBrushStrokes$Sheet;") ∈ wsX5_strokeOf := by decide +kernel
theorem in_X5_strokeOf_X5 : ∀ w ∈ u_ws RX5 TX5 5, w ∈ wsX5_strokeOf := by decide +kernel
theorem xw_X5_strokeOf_74 : (Cond.classLink RX5 70 (kEx 1)) ∈ wsX5_strokeOf ∧ (Cond.initialized (kEx 1)) ∈ wsX5_strokeOf ∧ (∀ w ∈ (vx_atS RX5 74 (kEx 1) ["java/lang/RuntimeException", "java/lang/Exception"]).filter goodWord, w ∈ wsX5_strokeOf) ∧ (∀ w ∈ (vx_atS RX5 74 (kEx 1) ["java/lang/RuntimeException", "java/lang/Exception"]).filter (fun w => !goodWord w), w ∈ Cond.castable (kEx 1) (kEx 1) :: kDecl.map Cond.declares) ∧ ∀ w ∈ Cond.classLink RX5 70 (kEx 1) :: Cond.initialized (kEx 1) :: vx_atS RX5 74 (kEx 1) ["java/lang/RuntimeException", "java/lang/Exception"], vx_ot w = true := by decide +kernel
theorem cw_X5_strokeOf_X3_firstOfGreatestStray_232 {p : Program} {s : State} {m : MethodId} {args : Array Value} {meth : Method} {c : Code} {g : kG} {A : Nat → Prop} (C : CT g p s m args meth c RX5 cX5_strokeOf 4 (some .int) wsX5_strokeOf A) : CallW rX5_strokeOf s args RX5 RX3 232 yX3_firstOfGreatestStray cX3_firstOfGreatestStray 5 (some .int) wsX3_firstOfGreatestStray rX3_firstOfGreatestStray 0 0 0 := cwV 0 C.2.2.2.2.2.1 gX5_strokeOf_X3_firstOfGreatestStray rfl rfl rfl (by decide +kernel) ⟨Nat.le_of_ble_eq_true rfl, Nat.le_of_ble_eq_true rfl⟩
theorem cw_X5_strokeOf_X3_stray_220 {p : Program} {s : State} {m : MethodId} {args : Array Value} {meth : Method} {c : Code} {g : kG} {A : Nat → Prop} (C : CT g p s m args meth c RX5 cX5_strokeOf 4 (some .int) wsX5_strokeOf A) : CallW rX5_strokeOf s args RX5 RX3 220 yX3_stray cX3_stray 2 (some .int) wsX3_stray rX3_stray 0 0 1 := cwV 1 C.2.2.2.2.2.1 gX5_strokeOf_X3_stray rfl rfl rfl (by decide +kernel) ⟨Nat.le_of_ble_eq_true rfl, Nat.le_of_ble_eq_true rfl⟩
theorem cw_X5_strokeOf_X3_spanX_235 {p : Program} {s : State} {m : MethodId} {args : Array Value} {meth : Method} {c : Code} {g : kG} {A : Nat → Prop} (C : CT g p s m args meth c RX5 cX5_strokeOf 4 (some .int) wsX5_strokeOf A) : CallW rX5_strokeOf s args RX5 RX3 235 yX3_spanX cX3_spanX 4 (some .int) wsX3_spanX rX3_spanX 0 0 0 := cwV 0 C.2.2.2.2.2.1 gX5_strokeOf_X3_spanX rfl rfl rfl (by decide +kernel) ⟨Nat.le_of_ble_eq_true rfl, Nat.le_of_ble_eq_true rfl⟩
theorem cw_X5_strokeOf_X3_spanY_238 {p : Program} {s : State} {m : MethodId} {args : Array Value} {meth : Method} {c : Code} {g : kG} {A : Nat → Prop} (C : CT g p s m args meth c RX5 cX5_strokeOf 4 (some .int) wsX5_strokeOf A) : CallW rX5_strokeOf s args RX5 RX3 238 yX3_spanY cX3_spanY 4 (some .int) wsX3_spanY rX3_spanY 0 0 0 := cwV 0 C.2.2.2.2.2.1 gX5_strokeOf_X3_spanY rfl rfl rfl (by decide +kernel) ⟨Nat.le_of_ble_eq_true rfl, Nat.le_of_ble_eq_true rfl⟩
theorem cw_X5_strokeOf_X1_value_147 {p : Program} {s : State} {m : MethodId} {args : Array Value} {meth : Method} {c : Code} {g : kG} {A : Nat → Prop} (C : CT g p s m args meth c RX5 cX5_strokeOf 4 (some .int) wsX5_strokeOf A) : CallW rX5_strokeOf s args RX5 RX1 147 yX1_value cX1_value 2 (some .int) wsX1_value rX1_value 0 0 1 := cwV 1 C.2.2.2.2.2.1 gX5_strokeOf_X1_value rfl rfl rfl (by decide +kernel) ⟨Nat.le_of_ble_eq_true rfl, Nat.le_of_ble_eq_true rfl⟩
theorem cw_X5_strokeOf_X3_sharpJoins_241 {p : Program} {s : State} {m : MethodId} {args : Array Value} {meth : Method} {c : Code} {g : kG} {A : Nat → Prop} (C : CT g p s m args meth c RX5 cX5_strokeOf 4 (some .int) wsX5_strokeOf A) : CallW rX5_strokeOf s args RX5 RX3 241 yX3_sharpJoins cX3_sharpJoins 4 (some .int) wsX3_sharpJoins rX3_sharpJoins 0 0 1 := cwV 1 C.2.2.2.2.2.1 gX5_strokeOf_X3_sharpJoins rfl rfl rfl (by decide +kernel) ⟨Nat.le_of_ble_eq_true rfl, Nat.le_of_ble_eq_true rfl⟩
theorem cw_X5_strokeOf_X3_kept_244 {p : Program} {s : State} {m : MethodId} {args : Array Value} {meth : Method} {c : Code} {g : kG} {A : Nat → Prop} (C : CT g p s m args meth c RX5 cX5_strokeOf 4 (some .int) wsX5_strokeOf A) : CallW rX5_strokeOf s args RX5 RX3 244 yX3_kept cX3_kept 1 (some .int) wsX3_kept rX3_kept 0 0 0 := cwV 0 C.2.2.2.2.2.1 gX5_strokeOf_X3_kept rfl rfl rfl (by decide +kernel) ⟨Nat.le_of_ble_eq_true rfl, Nat.le_of_ble_eq_true rfl⟩
theorem cw_X5_strokeOf_X5_existingStroke_87 {p : Program} {s : State} {m : MethodId} {args : Array Value} {meth : Method} {c : Code} {g : kG} {A : Nat → Prop} (C : CT g p s m args meth c RX5 cX5_strokeOf 4 (some .int) wsX5_strokeOf A) : CallW rX5_strokeOf s args RX5 RX5 87 yX5_existingStroke cX5_existingStroke 2 (some (.object "BrushStrokes$Stroke")) wsX5_existingStroke rX5_existingStroke 1 6 1 := cwV 1 C.2.2.2.2.2.1 gX5_strokeOf_X5_existingStroke rfl rfl rfl (by decide +kernel) ⟨Nat.le_of_ble_eq_true rfl, Nat.le_of_ble_eq_true rfl⟩
theorem cw_X5_strokeOf_X3_size_91 {p : Program} {s : State} {m : MethodId} {args : Array Value} {meth : Method} {c : Code} {g : kG} {A : Nat → Prop} (C : CT g p s m args meth c RX5 cX5_strokeOf 4 (some .int) wsX5_strokeOf A) : CallW rX5_strokeOf s args RX5 RX3 91 yX3_size cX3_size 1 (some .int) wsX3_size rX3_size 0 0 0 := cwV 0 C.2.2.2.2.2.1 gX5_strokeOf_X3_size rfl rfl rfl (by decide +kernel) ⟨Nat.le_of_ble_eq_true rfl, Nat.le_of_ble_eq_true rfl⟩
theorem cw_X5_strokeOf_X3_keptCount_157 {p : Program} {s : State} {m : MethodId} {args : Array Value} {meth : Method} {c : Code} {g : kG} {A : Nat → Prop} (C : CT g p s m args meth c RX5 cX5_strokeOf 4 (some .int) wsX5_strokeOf A) : CallW rX5_strokeOf s args RX5 RX3 157 yX3_keptCount cX3_keptCount 1 (some .int) wsX3_keptCount rX3_keptCount 0 0 0 := cwV 0 C.2.2.2.2.2.1 gX5_strokeOf_X3_keptCount rfl rfl rfl (by decide +kernel) ⟨Nat.le_of_ble_eq_true rfl, Nat.le_of_ble_eq_true rfl⟩
theorem cw_X5_strokeOf_X1_countKind_225 {p : Program} {s : State} {m : MethodId} {args : Array Value} {meth : Method} {c : Code} {g : kG} {A : Nat → Prop} (C : CT g p s m args meth c RX5 cX5_strokeOf 4 (some .int) wsX5_strokeOf A) : CallW rX5_strokeOf s args RX5 RX1 225 yX1_countKind cX1_countKind 5 (some .int) wsX1_countKind rX1_countKind 0 0 2 := cwV 2 C.2.2.2.2.2.1 gX5_strokeOf_X1_countKind rfl rfl rfl (by decide +kernel) ⟨Nat.le_of_ble_eq_true rfl, Nat.le_of_ble_eq_true rfl⟩
theorem cw_X5_strokeOf_X3_keptLength_229 {p : Program} {s : State} {m : MethodId} {args : Array Value} {meth : Method} {c : Code} {g : kG} {A : Nat → Prop} (C : CT g p s m args meth c RX5 cX5_strokeOf 4 (some .int) wsX5_strokeOf A) : CallW rX5_strokeOf s args RX5 RX3 229 yX3_keptLength cX3_keptLength 3 (some .int) wsX3_keptLength rX3_keptLength 0 0 0 := cwV 0 C.2.2.2.2.2.1 gX5_strokeOf_X3_keptLength rfl rfl rfl (by decide +kernel) ⟨Nat.le_of_ble_eq_true rfl, Nat.le_of_ble_eq_true rfl⟩
noncomputable def fX5_strokeOf (p1 : Int32) (p2 : Int32) (u : ShS) : Option ((Nat) ⊕ (Int32)) := (fX5_existingStroke p1 u).bind fun q => Sum.elim (fun E => some (.inl E)) (fun q1 => if p2 = 0 then (gd (decide (q1 < 5)) ((fX3_size (Sh_st u q1)).bind fun r2 => some (.inr r2))) else (if p2 = 1 then (gd (decide (q1 < 5)) ((fX3_keptCount (Sh_st u q1)).bind fun r3 => some (.inr r3))) else (if p2 = 2 then ((fX1_countKind 2 q1 u).bind fun r4 => some (.inr r4)) else (if p2 = 3 then ((fX1_countKind 4 q1 u).bind fun r5 => some (.inr r5)) else (if p2 = 4 then (gd (decide (q1 < 5)) ((fX3_keptLength (Sh_st u q1)).bind fun r6 => some (.inr r6))) else (if p2 = 5 then (gd (decide (q1 < 5)) ((fX3_firstOfGreatestStray (Sh_st u q1)).bind fun r7 => gd (decide (q1 < 5)) ((fX3_stray r7 (Sh_st u q1)).bind fun r8 => some (.inr r8)))) else (if p2 = 6 then (gd (decide (q1 < 5)) ((fX3_firstOfGreatestStray (Sh_st u q1)).bind fun r9 => some (.inr r9))) else (if p2 = 7 then (gd (decide (q1 < 5)) ((fX3_spanX (Sh_st u q1)).bind fun r10 => some (.inr r10))) else (if p2 = 8 then (gd (decide (q1 < 5)) ((fX3_spanY (Sh_st u q1)).bind fun r11 => some (.inr r11))) else (if p2 = 9 then ((fX1_value 3 u).bind fun r12 => gd (decide (q1 < 5)) ((fX3_sharpJoins r12 (Sh_st u q1)).bind fun r13 => some (.inr r13))) else (if p2 = 10 then (gd (decide (q1 < 5)) ((fX3_kept (Sh_st u q1)).bind fun r14 => some (.inr r14))) else (some (.inl 1))))))))))))) q
def obX5_strokeOf (g : kG) (D : Nat → Nat → Nat) (R : kAd) (u : ShS) (ts : TS) (bs : SS) (ps : PS) (hs : HS) (ns : NS) : (Nat) ⊕ (Int32) → kOut Unit
  | .inl E => .inl (E, fun _ => wB g D R u ts bs ps hs ns)
  | .inr v => .inr ((some (.int v)), fun _ => wB g D R u ts bs ps hs ns)
set_option maxRecDepth 100000 in
set_option maxHeartbeats 4000000 in
theorem kX5_strokeOf (l : Launch) (hl9 : l.stackTraces = false) (g : kG) (D : Nat → Nat → Nat) (R : kAd) (p1 : Int32) (p2 : Int32) (u : ShS) (ts : TS) (bs : SS) (ps : PS) (hs : HS) (ns : NS) (o : (Nat) ⊕ (Int32)) (hm : fX5_strokeOf p1 p2 u = some o) : KX (S := Unit) l yX5_strokeOf wsX5_strokeOf rX5_strokeOf g [.ref (D 0 0), .int p1, .int p2] (wB g D R u ts bs ps hs ns) (obX5_strokeOf g D R u ts bs ps hs ns o) 2 12 := by
  refine KX.of (nL := 4) (by decide) rfl (Nat.le_of_ble_eq_true rfl) ?_
  intro p e s m args below meth c A ls C htab X hl
  have C : CT g p s m args meth c RX5 cX5_strokeOf 4 (some .int) wsX5_strokeOf A := C
  have hx := C.1
  have hb := C.2.1
  have hl : lv_has ls 4 [(0, .ref (D 0 0)), (1, .int p1), (2, .int p2)] := hl
  have hinX5 := in_X5_strokeOf_X5
  have hf10 := C.2.2.2.2.2.1 _ fl_X5_strokeOf_10
  rw [fX5_strokeOf] at hm
  refine lv_aload_n hx hb dX5_strokeOf_0 rfl (lv_at hl 0 rfl) ?_
  refine lv_iload_n hx hb dX5_strokeOf_1 rfl (lv_at hl 1 rfl) ?_
  obtain ⟨q, hcl, hm⟩ := bnd hm
  rcases q with E | q1
  · have hm := se_l hm
    cases sm hm
    exact kxVt _ (pm_wh _) C htab X (kX5_existingStroke l hl9 g D R p1 u ts bs ps hs ns (.inl E) hcl) (cw_X5_strokeOf_X5_existingStroke_87 C) 0 (ci := 5) rfl rfl (As := [.int p1]) rfl hl (rest := []) rfl (Nat.le_of_ble_eq_true rfl) dX5_strokeOf_2 ⟨Nat.le_of_ble_eq_true rfl, Nat.le_of_ble_eq_true rfl⟩ (Nat.le_of_ble_eq_true rfl) (Nat.le_of_ble_eq_true rfl) (fun _ => ⟨(), (pm_wi _)⟩)
  have hm := se_r hm
  refine kxV _ (pm_wh _) C X (kX5_existingStroke l hl9 g D R p1 u ts bs ps hs ns (.inr q1) hcl) (cw_X5_strokeOf_X5_existingStroke_87 C) 0 (ci := 5) rfl rfl (As := [.int p1]) rfl hl (rest := []) rfl (Nat.le_of_ble_eq_true rfl) (st2 := [.ref (D 1 (3 + 2 * q1))]) rfl dX5_strokeOf_2 ⟨Nat.le_of_ble_eq_true rfl, Nat.le_of_ble_eq_true rfl⟩ (w3 := (fun _ => wB g D R u ts bs ps hs ns)) (fun _ => (pm_wi _)) (fun _ H locs X => ?_)
  clear hcl
  refine lv_astore_n (lv' := [(3, .ref (D 1 (3 + 2 * q1))), (0, .ref (D 0 0)), (1, .int p1), (2, .int p2)]) hx hb dX5_strokeOf_5 rfl hl (by decide) rfl (fun ls hl => ?_)
  refine lv_iload_n hx hb dX5_strokeOf_6 rfl (lv_at hl 3 rfl) ?_
  by_cases hc0 : p2 = 0
  · have hm := ifp hc0 hm
    refine lv_tableIn (off := 57) (tgt := 64) hx hb dX5_strokeOf_7 (by rw [hc0]; decide) (by rw [hc0]; decide) (by rw [hc0]; rfl) (by decide) ?_
    refine lv_aload_n hx hb dX5_strokeOf_64 rfl (lv_at hl 0 rfl) ?_
    obtain ⟨hgk, hm⟩ := gd_t hm
    have hgk := of_decide_eq_true hgk
    obtain ⟨r2, hcl, hm⟩ := bnd hm
    refine kVp _ (bs_out hgk) C X (kX3_size l g (sa (D 1) q1) (Sh_st u q1) r2 hcl) (cw_X5_strokeOf_X3_size_91 C) 0 (ci := 3) rfl rfl (As := []) rfl hl (rest := []) rfl (Nat.le_of_ble_eq_true rfl) (st2 := [.int r2]) rfl dX5_strokeOf_65 ⟨Nat.le_of_ble_eq_true rfl, Nat.le_of_ble_eq_true rfl⟩ (w3 := wB g D R u ts bs ps hs ns) (bs_in0 hgk) (fun H locs X => ?_)
    clear hcl
    cases sm hm
    exact kxret () (Nat.le_of_ble_eq_true rfl) (Nat.le_of_ble_eq_true rfl) (kiret C X dX5_strokeOf_68)
  · have hm := ifn hc0 hm
    by_cases hc1 : p2 = 1
    · have hm := ifp hc1 hm
      refine lv_tableIn (off := 62) (tgt := 69) hx hb dX5_strokeOf_7 (by rw [hc1]; decide) (by rw [hc1]; decide) (by rw [hc1]; rfl) (by decide) ?_
      refine lv_aload_n hx hb dX5_strokeOf_69 rfl (lv_at hl 0 rfl) ?_
      obtain ⟨hgk, hm⟩ := gd_t hm
      have hgk := of_decide_eq_true hgk
      obtain ⟨r3, hcl, hm⟩ := bnd hm
      refine kVp _ (bs_out hgk) C X (kX3_keptCount l g (sa (D 1) q1) (Sh_st u q1) r3 hcl) (cw_X5_strokeOf_X3_keptCount_157 C) 0 (ci := 3) rfl rfl (As := []) rfl hl (rest := []) rfl (Nat.le_of_ble_eq_true rfl) (st2 := [.int r3]) rfl dX5_strokeOf_70 ⟨Nat.le_of_ble_eq_true rfl, Nat.le_of_ble_eq_true rfl⟩ (w3 := wB g D R u ts bs ps hs ns) (bs_in0 hgk) (fun H locs X => ?_)
      clear hcl
      cases sm hm
      exact kxret () (Nat.le_of_ble_eq_true rfl) (Nat.le_of_ble_eq_true rfl) (kiret C X dX5_strokeOf_73)
    · have hm := ifn hc1 hm
      by_cases hc2 : p2 = 2
      · have hm := ifp hc2 hm
        refine lv_tableIn (off := 67) (tgt := 74) hx hb dX5_strokeOf_7 (by rw [hc2]; decide) (by rw [hc2]; decide) (by rw [hc2]; rfl) (by decide) ?_
        refine lv_aload_n hx hb dX5_strokeOf_74 rfl (lv_at hl 1 rfl) ?_
        refine kget C X 0 (ci := 5) rfl rfl hinX5 0 (by decide) hf10 (v := .ref (D 1 0)) rfl dX5_strokeOf_75 ?_
        refine lv_aload_n hx hb dX5_strokeOf_78 rfl (lv_at hl 0 rfl) ?_
        refine lv_iconst (v := 2) hx hb dX5_strokeOf_79 (by decide) ?_
        obtain ⟨r4, hcl, hm⟩ := bnd hm
        refine kVp _ b1_out C X (kX1_countKind l g (D 1) 2 q1 u r4 hcl) (cw_X5_strokeOf_X1_countKind_225 C) 0 (ci := 1) rfl rfl (As := [.ref (D 1 (3 + 2 * q1)), .int 2]) rfl hl (rest := []) rfl (Nat.le_of_ble_eq_true rfl) (st2 := [.int r4]) rfl dX5_strokeOf_80 ⟨Nat.le_of_ble_eq_true rfl, Nat.le_of_ble_eq_true rfl⟩ (w3 := wB g D R u ts bs ps hs ns) (b1_in u) (fun H locs X => ?_)
        clear hcl
        cases sm hm
        exact kxret () (Nat.le_of_ble_eq_true rfl) (Nat.le_of_ble_eq_true rfl) (kiret C X dX5_strokeOf_83)
      · have hm := ifn hc2 hm
        by_cases hc3 : p2 = 3
        · have hm := ifp hc3 hm
          refine lv_tableIn (off := 77) (tgt := 84) hx hb dX5_strokeOf_7 (by rw [hc3]; decide) (by rw [hc3]; decide) (by rw [hc3]; rfl) (by decide) ?_
          refine lv_aload_n hx hb dX5_strokeOf_84 rfl (lv_at hl 1 rfl) ?_
          refine kget C X 0 (ci := 5) rfl rfl hinX5 0 (by decide) hf10 (v := .ref (D 1 0)) rfl dX5_strokeOf_85 ?_
          refine lv_aload_n hx hb dX5_strokeOf_88 rfl (lv_at hl 0 rfl) ?_
          refine lv_iconst (v := 4) hx hb dX5_strokeOf_89 (by decide) ?_
          obtain ⟨r5, hcl, hm⟩ := bnd hm
          refine kVp _ b1_out C X (kX1_countKind l g (D 1) 4 q1 u r5 hcl) (cw_X5_strokeOf_X1_countKind_225 C) 0 (ci := 1) rfl rfl (As := [.ref (D 1 (3 + 2 * q1)), .int 4]) rfl hl (rest := []) rfl (Nat.le_of_ble_eq_true rfl) (st2 := [.int r5]) rfl dX5_strokeOf_90 ⟨Nat.le_of_ble_eq_true rfl, Nat.le_of_ble_eq_true rfl⟩ (w3 := wB g D R u ts bs ps hs ns) (b1_in u) (fun H locs X => ?_)
          clear hcl
          cases sm hm
          exact kxret () (Nat.le_of_ble_eq_true rfl) (Nat.le_of_ble_eq_true rfl) (kiret C X dX5_strokeOf_93)
        · have hm := ifn hc3 hm
          by_cases hc4 : p2 = 4
          · have hm := ifp hc4 hm
            refine lv_tableIn (off := 87) (tgt := 94) hx hb dX5_strokeOf_7 (by rw [hc4]; decide) (by rw [hc4]; decide) (by rw [hc4]; rfl) (by decide) ?_
            refine lv_aload_n hx hb dX5_strokeOf_94 rfl (lv_at hl 0 rfl) ?_
            obtain ⟨hgk, hm⟩ := gd_t hm
            have hgk := of_decide_eq_true hgk
            obtain ⟨r6, hcl, hm⟩ := bnd hm
            refine kVp _ (bs_out hgk) C X (kX3_keptLength l g (sa (D 1) q1) (Sh_st u q1) r6 hcl) (cw_X5_strokeOf_X3_keptLength_229 C) 0 (ci := 3) rfl rfl (As := []) rfl hl (rest := []) rfl (Nat.le_of_ble_eq_true rfl) (st2 := [.int r6]) rfl dX5_strokeOf_95 ⟨Nat.le_of_ble_eq_true rfl, Nat.le_of_ble_eq_true rfl⟩ (w3 := wB g D R u ts bs ps hs ns) (bs_in0 hgk) (fun H locs X => ?_)
            clear hcl
            cases sm hm
            exact kxret () (Nat.le_of_ble_eq_true rfl) (Nat.le_of_ble_eq_true rfl) (kiret C X dX5_strokeOf_98)
          · have hm := ifn hc4 hm
            by_cases hc5 : p2 = 5
            · have hm := ifp hc5 hm
              refine lv_tableIn (off := 92) (tgt := 99) hx hb dX5_strokeOf_7 (by rw [hc5]; decide) (by rw [hc5]; decide) (by rw [hc5]; rfl) (by decide) ?_
              refine lv_aload_n hx hb dX5_strokeOf_99 rfl (lv_at hl 0 rfl) ?_
              refine lv_aload_n hx hb dX5_strokeOf_100 rfl (lv_at hl 0 rfl) ?_
              obtain ⟨hgk, hm⟩ := gd_t hm
              have hgk := of_decide_eq_true hgk
              obtain ⟨r7, hcl, hm⟩ := bnd hm
              refine kVp _ (bs_out hgk) C X (kX3_firstOfGreatestStray l g (sa (D 1) q1) (Sh_st u q1) r7 hcl) (cw_X5_strokeOf_X3_firstOfGreatestStray_232 C) 0 (ci := 3) rfl rfl (As := []) rfl hl (rest := [.ref (D 1 (3 + 2 * q1))]) rfl (Nat.le_of_ble_eq_true rfl) (st2 := [.int r7, .ref (D 1 (3 + 2 * q1))]) rfl dX5_strokeOf_101 ⟨Nat.le_of_ble_eq_true rfl, Nat.le_of_ble_eq_true rfl⟩ (w3 := wB g D R u ts bs ps hs ns) (bs_in0 hgk) (fun H locs X => ?_)
              clear hcl
              obtain ⟨hgk, hm⟩ := gd_t hm
              have hgk := of_decide_eq_true hgk
              obtain ⟨r8, hcl, hm⟩ := bnd hm
              refine kVp _ (bs_out hgk) C X (kX3_stray l g (sa (D 1) q1) r7 (Sh_st u q1) r8 hcl) (cw_X5_strokeOf_X3_stray_220 C) 0 (ci := 3) rfl rfl (As := [.int r7]) rfl hl (rest := []) rfl (Nat.le_of_ble_eq_true rfl) (st2 := [.int r8]) rfl dX5_strokeOf_104 ⟨Nat.le_of_ble_eq_true rfl, Nat.le_of_ble_eq_true rfl⟩ (w3 := wB g D R u ts bs ps hs ns) (bs_in0 hgk) (fun H locs X => ?_)
              clear hcl
              cases sm hm
              exact kxret () (Nat.le_of_ble_eq_true rfl) (Nat.le_of_ble_eq_true rfl) (kiret C X dX5_strokeOf_107)
            · have hm := ifn hc5 hm
              by_cases hc6 : p2 = 6
              · have hm := ifp hc6 hm
                refine lv_tableIn (off := 101) (tgt := 108) hx hb dX5_strokeOf_7 (by rw [hc6]; decide) (by rw [hc6]; decide) (by rw [hc6]; rfl) (by decide) ?_
                refine lv_aload_n hx hb dX5_strokeOf_108 rfl (lv_at hl 0 rfl) ?_
                obtain ⟨hgk, hm⟩ := gd_t hm
                have hgk := of_decide_eq_true hgk
                obtain ⟨r9, hcl, hm⟩ := bnd hm
                refine kVp _ (bs_out hgk) C X (kX3_firstOfGreatestStray l g (sa (D 1) q1) (Sh_st u q1) r9 hcl) (cw_X5_strokeOf_X3_firstOfGreatestStray_232 C) 0 (ci := 3) rfl rfl (As := []) rfl hl (rest := []) rfl (Nat.le_of_ble_eq_true rfl) (st2 := [.int r9]) rfl dX5_strokeOf_109 ⟨Nat.le_of_ble_eq_true rfl, Nat.le_of_ble_eq_true rfl⟩ (w3 := wB g D R u ts bs ps hs ns) (bs_in0 hgk) (fun H locs X => ?_)
                clear hcl
                cases sm hm
                exact kxret () (Nat.le_of_ble_eq_true rfl) (Nat.le_of_ble_eq_true rfl) (kiret C X dX5_strokeOf_112)
              · have hm := ifn hc6 hm
                by_cases hc7 : p2 = 7
                · have hm := ifp hc7 hm
                  refine lv_tableIn (off := 106) (tgt := 113) hx hb dX5_strokeOf_7 (by rw [hc7]; decide) (by rw [hc7]; decide) (by rw [hc7]; rfl) (by decide) ?_
                  refine lv_aload_n hx hb dX5_strokeOf_113 rfl (lv_at hl 0 rfl) ?_
                  obtain ⟨hgk, hm⟩ := gd_t hm
                  have hgk := of_decide_eq_true hgk
                  obtain ⟨r10, hcl, hm⟩ := bnd hm
                  refine kVp _ (bs_out hgk) C X (kX3_spanX l g (sa (D 1) q1) (Sh_st u q1) r10 hcl) (cw_X5_strokeOf_X3_spanX_235 C) 0 (ci := 3) rfl rfl (As := []) rfl hl (rest := []) rfl (Nat.le_of_ble_eq_true rfl) (st2 := [.int r10]) rfl dX5_strokeOf_114 ⟨Nat.le_of_ble_eq_true rfl, Nat.le_of_ble_eq_true rfl⟩ (w3 := wB g D R u ts bs ps hs ns) (bs_in0 hgk) (fun H locs X => ?_)
                  clear hcl
                  cases sm hm
                  exact kxret () (Nat.le_of_ble_eq_true rfl) (Nat.le_of_ble_eq_true rfl) (kiret C X dX5_strokeOf_117)
                · have hm := ifn hc7 hm
                  by_cases hc8 : p2 = 8
                  · have hm := ifp hc8 hm
                    refine lv_tableIn (off := 111) (tgt := 118) hx hb dX5_strokeOf_7 (by rw [hc8]; decide) (by rw [hc8]; decide) (by rw [hc8]; rfl) (by decide) ?_
                    refine lv_aload_n hx hb dX5_strokeOf_118 rfl (lv_at hl 0 rfl) ?_
                    obtain ⟨hgk, hm⟩ := gd_t hm
                    have hgk := of_decide_eq_true hgk
                    obtain ⟨r11, hcl, hm⟩ := bnd hm
                    refine kVp _ (bs_out hgk) C X (kX3_spanY l g (sa (D 1) q1) (Sh_st u q1) r11 hcl) (cw_X5_strokeOf_X3_spanY_238 C) 0 (ci := 3) rfl rfl (As := []) rfl hl (rest := []) rfl (Nat.le_of_ble_eq_true rfl) (st2 := [.int r11]) rfl dX5_strokeOf_119 ⟨Nat.le_of_ble_eq_true rfl, Nat.le_of_ble_eq_true rfl⟩ (w3 := wB g D R u ts bs ps hs ns) (bs_in0 hgk) (fun H locs X => ?_)
                    clear hcl
                    cases sm hm
                    exact kxret () (Nat.le_of_ble_eq_true rfl) (Nat.le_of_ble_eq_true rfl) (kiret C X dX5_strokeOf_122)
                  · have hm := ifn hc8 hm
                    by_cases hc9 : p2 = 9
                    · have hm := ifp hc9 hm
                      refine lv_tableIn (off := 116) (tgt := 123) hx hb dX5_strokeOf_7 (by rw [hc9]; decide) (by rw [hc9]; decide) (by rw [hc9]; rfl) (by decide) ?_
                      refine lv_aload_n hx hb dX5_strokeOf_123 rfl (lv_at hl 0 rfl) ?_
                      refine lv_aload_n hx hb dX5_strokeOf_124 rfl (lv_at hl 1 rfl) ?_
                      refine kget C X 0 (ci := 5) rfl rfl hinX5 0 (by decide) hf10 (v := .ref (D 1 0)) rfl dX5_strokeOf_125 ?_
                      refine lv_iconst (v := 3) hx hb dX5_strokeOf_128 (by decide) ?_
                      obtain ⟨r12, hcl, hm⟩ := bnd hm
                      refine kVp _ b1_out C X (kX1_value l g (D 1) 3 u r12 hcl) (cw_X5_strokeOf_X1_value_147 C) 0 (ci := 1) rfl rfl (As := [.int 3]) rfl hl (rest := [.ref (D 1 (3 + 2 * q1))]) rfl (Nat.le_of_ble_eq_true rfl) (st2 := [.int r12, .ref (D 1 (3 + 2 * q1))]) rfl dX5_strokeOf_129 ⟨Nat.le_of_ble_eq_true rfl, Nat.le_of_ble_eq_true rfl⟩ (w3 := wB g D R u ts bs ps hs ns) (b1_in u) (fun H locs X => ?_)
                      clear hcl
                      obtain ⟨hgk, hm⟩ := gd_t hm
                      have hgk := of_decide_eq_true hgk
                      obtain ⟨r13, hcl, hm⟩ := bnd hm
                      refine kVp _ (bs_out hgk) C X (kX3_sharpJoins l g (sa (D 1) q1) r12 (Sh_st u q1) r13 hcl) (cw_X5_strokeOf_X3_sharpJoins_241 C) 0 (ci := 3) rfl rfl (As := [.int r12]) rfl hl (rest := []) rfl (Nat.le_of_ble_eq_true rfl) (st2 := [.int r13]) rfl dX5_strokeOf_132 ⟨Nat.le_of_ble_eq_true rfl, Nat.le_of_ble_eq_true rfl⟩ (w3 := wB g D R u ts bs ps hs ns) (bs_in0 hgk) (fun H locs X => ?_)
                      clear hcl
                      cases sm hm
                      exact kxret () (Nat.le_of_ble_eq_true rfl) (Nat.le_of_ble_eq_true rfl) (kiret C X dX5_strokeOf_135)
                    · have hm := ifn hc9 hm
                      by_cases hc10 : p2 = 10
                      · have hm := ifp hc10 hm
                        refine lv_tableIn (off := 129) (tgt := 136) hx hb dX5_strokeOf_7 (by rw [hc10]; decide) (by rw [hc10]; decide) (by rw [hc10]; rfl) (by decide) ?_
                        refine lv_aload_n hx hb dX5_strokeOf_136 rfl (lv_at hl 0 rfl) ?_
                        obtain ⟨hgk, hm⟩ := gd_t hm
                        have hgk := of_decide_eq_true hgk
                        obtain ⟨r14, hcl, hm⟩ := bnd hm
                        refine kVp _ (bs_out hgk) C X (kX3_kept l g (sa (D 1) q1) (Sh_st u q1) r14 hcl) (cw_X5_strokeOf_X3_kept_244 C) 0 (ci := 3) rfl rfl (As := []) rfl hl (rest := []) rfl (Nat.le_of_ble_eq_true rfl) (st2 := [.int r14]) rfl dX5_strokeOf_137 ⟨Nat.le_of_ble_eq_true rfl, Nat.le_of_ble_eq_true rfl⟩ (w3 := wB g D R u ts bs ps hs ns) (bs_in0 hgk) (fun H locs X => ?_)
                        clear hcl
                        cases sm hm
                        exact kxret () (Nat.le_of_ble_eq_true rfl) (Nat.le_of_ble_eq_true rfl) (kiret C X dX5_strokeOf_140)
                      · have hm := ifn hc10 hm
                        refine lv_tableOut (tgt := 141) hx hb dX5_strokeOf_7 (tb_out11 hc0 hc1 hc2 hc3 hc4 hc5 hc6 hc7 hc8 hc9 hc10) (by decide) ?_
                        cases sm hm
                        exact kxthrow (E := 1) () (names := ["java/lang/RuntimeException", "java/lang/Exception"]) (ik := 70) (is := 247) (ic := 74) (text := "a stroke has no such number") C htab X hl9 hl (by decide) (by decide) rfl (by decide) xw_X5_strokeOf_74.1 xw_X5_strokeOf_74.2.1 xw_X5_strokeOf_74.2.2.1 xw_X5_strokeOf_74.2.2.2.1 (by decide) xw_X5_strokeOf_74.2.2.2.2 dX5_strokeOf_141 dX5_strokeOf_144 dX5_strokeOf_145 dX5_strokeOf_147 dX5_strokeOf_150 (Nat.le_of_ble_eq_true rfl) (Nat.le_of_ble_eq_true rfl) (Nat.le_of_ble_eq_true rfl) (Nat.le_of_ble_eq_true rfl) (Nat.le_of_ble_eq_true rfl) (Nat.le_of_ble_eq_true rfl)
-- X5 BrushStrokes.distance(IIII)I
abbrev rX5_distance : Room := { frames := 8, cells := 4, slots := 24, locals := 132 }
theorem cw_X5_distance_X5_requirePoint_112 {p : Program} {s : State} {m : MethodId} {args : Array Value} {meth : Method} {c : Code} {g : kG} {A : Nat → Prop} (C : CT g p s m args meth c RX5 cX5_distance 6 (some .int) wsX5_distance A) : CallB rX5_distance s args RX5 112 yX5_requirePoint cX5_requirePoint 2 none wsX5_requirePoint rX5_requirePoint 1 6 2 ∧ (Cond.static yX5_requirePoint).before args s = true := va_cwS 2 C.2.2.2.2.2.1 gX5_distance_X5_requirePoint rfl rfl rfl (by decide +kernel) ⟨Nat.le_of_ble_eq_true rfl, Nat.le_of_ble_eq_true rfl⟩
theorem cw_X5_distance_X5_existingStroke_87 {p : Program} {s : State} {m : MethodId} {args : Array Value} {meth : Method} {c : Code} {g : kG} {A : Nat → Prop} (C : CT g p s m args meth c RX5 cX5_distance 6 (some .int) wsX5_distance A) : CallW rX5_distance s args RX5 RX5 87 yX5_existingStroke cX5_existingStroke 2 (some (.object "BrushStrokes$Stroke")) wsX5_existingStroke rX5_existingStroke 1 6 1 := cwV 1 C.2.2.2.2.2.1 gX5_distance_X5_existingStroke rfl rfl rfl (by decide +kernel) ⟨Nat.le_of_ble_eq_true rfl, Nat.le_of_ble_eq_true rfl⟩
theorem cw_X5_distance_X3_hundredths_249 {p : Program} {s : State} {m : MethodId} {args : Array Value} {meth : Method} {c : Code} {g : kG} {A : Nat → Prop} (C : CT g p s m args meth c RX5 cX5_distance 6 (some .int) wsX5_distance A) : CallW rX5_distance s args RX5 RX3 249 yX3_hundredths cX3_hundredths 6 (some .int) wsX3_hundredths rX3_hundredths 0 0 3 := cwV 3 C.2.2.2.2.2.1 gX5_distance_X3_hundredths rfl rfl rfl (by decide +kernel) ⟨Nat.le_of_ble_eq_true rfl, Nat.le_of_ble_eq_true rfl⟩
noncomputable def fX5_distance (p1 : Int32) (p2 : Int32) (p3 : Int32) (p4 : Int32) (u : ShS) : Option ((Nat) ⊕ (Int32)) := (fX5_existingStroke p1 u).bind fun q => Sum.elim (fun E => some (.inl E)) (fun q1 => gd (decide (q1 < 5)) ((fX5_requirePoint p2 (Sh_st u q1)).bind fun q => Sum.elim (fun E => some (.inl E)) (fun _ => gd (decide (q1 < 5)) ((fX5_requirePoint p3 (Sh_st u q1)).bind fun q => Sum.elim (fun E => some (.inl E)) (fun _ => gd (decide (q1 < 5)) ((fX5_requirePoint p4 (Sh_st u q1)).bind fun q => Sum.elim (fun E => some (.inl E)) (fun _ => gd (decide (q1 < 5)) ((fX3_hundredths p2 p3 p4 (Sh_st u q1)).bind fun r2 => some (.inr r2))) q)) q)) q)) q
def obX5_distance (g : kG) (D : Nat → Nat → Nat) (R : kAd) (u : ShS) (ts : TS) (bs : SS) (ps : PS) (hs : HS) (ns : NS) : (Nat) ⊕ (Int32) → kOut Unit
  | .inl E => .inl (E, fun _ => wB g D R u ts bs ps hs ns)
  | .inr v => .inr ((some (.int v)), fun _ => wB g D R u ts bs ps hs ns)
set_option maxRecDepth 100000 in
set_option maxHeartbeats 4000000 in
theorem kX5_distance (l : Launch) (hl9 : l.stackTraces = false) (g : kG) (D : Nat → Nat → Nat) (R : kAd) (p1 : Int32) (p2 : Int32) (p3 : Int32) (p4 : Int32) (u : ShS) (ts : TS) (bs : SS) (ps : PS) (hs : HS) (ns : NS) (o : (Nat) ⊕ (Int32)) (hm : fX5_distance p1 p2 p3 p4 u = some o) : KX (S := Unit) l yX5_distance wsX5_distance rX5_distance g [.ref (D 0 0), .int p1, .int p2, .int p3, .int p4] (wB g D R u ts bs ps hs ns) (obX5_distance g D R u ts bs ps hs ns o) 4 24 := by
  refine KX.of (nL := 6) (by decide) rfl (Nat.le_of_ble_eq_true rfl) ?_
  intro p e s m args below meth c A ls C htab X hl
  have C : CT g p s m args meth c RX5 cX5_distance 6 (some .int) wsX5_distance A := C
  have hx := C.1
  have hb := C.2.1
  have hl : lv_has ls 6 [(0, .ref (D 0 0)), (1, .int p1), (2, .int p2), (3, .int p3), (4, .int p4)] := hl
  rw [fX5_distance] at hm
  refine lv_aload_n hx hb dX5_distance_0 rfl (lv_at hl 0 rfl) ?_
  refine lv_iload_n hx hb dX5_distance_1 rfl (lv_at hl 1 rfl) ?_
  obtain ⟨q, hcl, hm⟩ := bnd hm
  rcases q with E | q1
  · have hm := se_l hm
    cases sm hm
    exact kxVt _ (pm_wh _) C htab X (kX5_existingStroke l hl9 g D R p1 u ts bs ps hs ns (.inl E) hcl) (cw_X5_distance_X5_existingStroke_87 C) 0 (ci := 5) rfl rfl (As := [.int p1]) rfl hl (rest := []) rfl (Nat.le_of_ble_eq_true rfl) dX5_distance_2 ⟨Nat.le_of_ble_eq_true rfl, Nat.le_of_ble_eq_true rfl⟩ (Nat.le_of_ble_eq_true rfl) (Nat.le_of_ble_eq_true rfl) (fun _ => ⟨(), (pm_wi _)⟩)
  have hm := se_r hm
  refine kxV _ (pm_wh _) C X (kX5_existingStroke l hl9 g D R p1 u ts bs ps hs ns (.inr q1) hcl) (cw_X5_distance_X5_existingStroke_87 C) 0 (ci := 5) rfl rfl (As := [.int p1]) rfl hl (rest := []) rfl (Nat.le_of_ble_eq_true rfl) (st2 := [.ref (D 1 (3 + 2 * q1))]) rfl dX5_distance_2 ⟨Nat.le_of_ble_eq_true rfl, Nat.le_of_ble_eq_true rfl⟩ (w3 := (fun _ => wB g D R u ts bs ps hs ns)) (fun _ => (pm_wi _)) (fun _ H locs X => ?_)
  clear hcl
  refine lv_astore (lv' := [(5, .ref (D 1 (3 + 2 * q1))), (0, .ref (D 0 0)), (1, .int p1), (2, .int p2), (3, .int p3), (4, .int p4)]) hx hb dX5_distance_5 hl (by decide) rfl (fun ls hl => ?_)
  refine lv_aload hx hb dX5_distance_7 (lv_at hl 0 rfl) ?_
  refine lv_iload_n hx hb dX5_distance_9 rfl (lv_at hl 3 rfl) ?_
  obtain ⟨hgk, hm⟩ := gd_t hm
  have hgk := of_decide_eq_true hgk
  obtain ⟨q, hcl, hm⟩ := bnd hm
  rcases q with E | ⟨⟩
  · have hm := se_l hm
    cases sm hm
    exact kxSt _ (bs_out hgk) C htab X (kX5_requirePoint l hl9 g (sa (D 1) q1) p2 (Sh_st u q1) (.inl E) hcl) (cw_X5_distance_X5_requirePoint_112 C) (As := [.ref (D 1 (3 + 2 * q1)), .int p2]) rfl hl (rest := []) rfl (Nat.le_of_ble_eq_true rfl) dX5_distance_10 ⟨Nat.le_of_ble_eq_true rfl, Nat.le_of_ble_eq_true rfl⟩ (Nat.le_of_ble_eq_true rfl) (Nat.le_of_ble_eq_true rfl) (fun _ => ⟨(), (bs_in0 hgk)⟩)
  have hm := se_r hm
  refine kxS _ (bs_out hgk) C X (kX5_requirePoint l hl9 g (sa (D 1) q1) p2 (Sh_st u q1) (.inr ()) hcl) (cw_X5_distance_X5_requirePoint_112 C) (As := [.ref (D 1 (3 + 2 * q1)), .int p2]) rfl hl (rest := []) rfl (Nat.le_of_ble_eq_true rfl) (st2 := []) rfl dX5_distance_10 ⟨Nat.le_of_ble_eq_true rfl, Nat.le_of_ble_eq_true rfl⟩ (w3 := (fun _ => wB g D R u ts bs ps hs ns)) (fun _ => (bs_in0 hgk)) (fun _ H locs X => ?_)
  clear hcl
  refine lv_aload hx hb dX5_distance_13 (lv_at hl 0 rfl) ?_
  refine lv_iload_n hx hb dX5_distance_15 rfl (lv_at hl 4 rfl) ?_
  obtain ⟨hgk, hm⟩ := gd_t hm
  have hgk := of_decide_eq_true hgk
  obtain ⟨q, hcl, hm⟩ := bnd hm
  rcases q with E | ⟨⟩
  · have hm := se_l hm
    cases sm hm
    exact kxSt _ (bs_out hgk) C htab X (kX5_requirePoint l hl9 g (sa (D 1) q1) p3 (Sh_st u q1) (.inl E) hcl) (cw_X5_distance_X5_requirePoint_112 C) (As := [.ref (D 1 (3 + 2 * q1)), .int p3]) rfl hl (rest := []) rfl (Nat.le_of_ble_eq_true rfl) dX5_distance_16 ⟨Nat.le_of_ble_eq_true rfl, Nat.le_of_ble_eq_true rfl⟩ (Nat.le_of_ble_eq_true rfl) (Nat.le_of_ble_eq_true rfl) (fun _ => ⟨(), (bs_in0 hgk)⟩)
  have hm := se_r hm
  refine kxS _ (bs_out hgk) C X (kX5_requirePoint l hl9 g (sa (D 1) q1) p3 (Sh_st u q1) (.inr ()) hcl) (cw_X5_distance_X5_requirePoint_112 C) (As := [.ref (D 1 (3 + 2 * q1)), .int p3]) rfl hl (rest := []) rfl (Nat.le_of_ble_eq_true rfl) (st2 := []) rfl dX5_distance_16 ⟨Nat.le_of_ble_eq_true rfl, Nat.le_of_ble_eq_true rfl⟩ (w3 := (fun _ => wB g D R u ts bs ps hs ns)) (fun _ => (bs_in0 hgk)) (fun _ H locs X => ?_)
  clear hcl
  refine lv_aload hx hb dX5_distance_19 (lv_at hl 0 rfl) ?_
  refine lv_iload hx hb dX5_distance_21 (lv_at hl 5 rfl) ?_
  obtain ⟨hgk, hm⟩ := gd_t hm
  have hgk := of_decide_eq_true hgk
  obtain ⟨q, hcl, hm⟩ := bnd hm
  rcases q with E | ⟨⟩
  · have hm := se_l hm
    cases sm hm
    exact kxSt _ (bs_out hgk) C htab X (kX5_requirePoint l hl9 g (sa (D 1) q1) p4 (Sh_st u q1) (.inl E) hcl) (cw_X5_distance_X5_requirePoint_112 C) (As := [.ref (D 1 (3 + 2 * q1)), .int p4]) rfl hl (rest := []) rfl (Nat.le_of_ble_eq_true rfl) dX5_distance_23 ⟨Nat.le_of_ble_eq_true rfl, Nat.le_of_ble_eq_true rfl⟩ (Nat.le_of_ble_eq_true rfl) (Nat.le_of_ble_eq_true rfl) (fun _ => ⟨(), (bs_in0 hgk)⟩)
  have hm := se_r hm
  refine kxS _ (bs_out hgk) C X (kX5_requirePoint l hl9 g (sa (D 1) q1) p4 (Sh_st u q1) (.inr ()) hcl) (cw_X5_distance_X5_requirePoint_112 C) (As := [.ref (D 1 (3 + 2 * q1)), .int p4]) rfl hl (rest := []) rfl (Nat.le_of_ble_eq_true rfl) (st2 := []) rfl dX5_distance_23 ⟨Nat.le_of_ble_eq_true rfl, Nat.le_of_ble_eq_true rfl⟩ (w3 := (fun _ => wB g D R u ts bs ps hs ns)) (fun _ => (bs_in0 hgk)) (fun _ H locs X => ?_)
  clear hcl
  refine lv_aload hx hb dX5_distance_26 (lv_at hl 0 rfl) ?_
  refine lv_iload_n hx hb dX5_distance_28 rfl (lv_at hl 3 rfl) ?_
  refine lv_iload_n hx hb dX5_distance_29 rfl (lv_at hl 4 rfl) ?_
  refine lv_iload hx hb dX5_distance_30 (lv_at hl 5 rfl) ?_
  obtain ⟨hgk, hm⟩ := gd_t hm
  have hgk := of_decide_eq_true hgk
  obtain ⟨r2, hcl, hm⟩ := bnd hm
  refine kVp _ (bs_out hgk) C X (kX3_hundredths l g (sa (D 1) q1) p2 p3 p4 (Sh_st u q1) r2 hcl) (cw_X5_distance_X3_hundredths_249 C) 0 (ci := 3) rfl rfl (As := [.int p2, .int p3, .int p4]) rfl hl (rest := []) rfl (Nat.le_of_ble_eq_true rfl) (st2 := [.int r2]) rfl dX5_distance_32 ⟨Nat.le_of_ble_eq_true rfl, Nat.le_of_ble_eq_true rfl⟩ (w3 := wB g D R u ts bs ps hs ns) (bs_in0 hgk) (fun H locs X => ?_)
  clear hcl
  cases sm hm
  exact kxret () (Nat.le_of_ble_eq_true rfl) (Nat.le_of_ble_eq_true rfl) (kiret C X dX5_distance_35)
-- X5 BrushStrokes.crossings(I)I
abbrev rX5_crossings : Room := { frames := 8, cells := 1, slots := 6, locals := 143 }
theorem cw_X5_crossings_X5_existingStroke_87 {p : Program} {s : State} {m : MethodId} {args : Array Value} {meth : Method} {c : Code} {g : kG} {A : Nat → Prop} (C : CT g p s m args meth c RX5 cX5_crossings 2 (some .int) wsX5_crossings A) : CallW rX5_crossings s args RX5 RX5 87 yX5_existingStroke cX5_existingStroke 2 (some (.object "BrushStrokes$Stroke")) wsX5_existingStroke rX5_existingStroke 1 6 1 := cwV 1 C.2.2.2.2.2.1 gX5_crossings_X5_existingStroke rfl rfl rfl (by decide +kernel) ⟨Nat.le_of_ble_eq_true rfl, Nat.le_of_ble_eq_true rfl⟩
theorem cw_X5_crossings_X3_countCrossings_252 {p : Program} {s : State} {m : MethodId} {args : Array Value} {meth : Method} {c : Code} {g : kG} {A : Nat → Prop} (C : CT g p s m args meth c RX5 cX5_crossings 2 (some .int) wsX5_crossings A) : CallW rX5_crossings s args RX5 RX3 252 yX3_countCrossings cX3_countCrossings 3 (some .int) wsX3_countCrossings rX3_countCrossings 0 0 0 := cwV 0 C.2.2.2.2.2.1 gX5_crossings_X3_countCrossings rfl rfl rfl (by decide +kernel) ⟨Nat.le_of_ble_eq_true rfl, Nat.le_of_ble_eq_true rfl⟩
noncomputable def fX5_crossings (p1 : Int32) (u : ShS) : Option ((Nat) ⊕ (Int32)) := (fX5_existingStroke p1 u).bind fun q => Sum.elim (fun E => some (.inl E)) (fun q1 => gd (decide (q1 < 5)) ((fX3_countCrossings (Sh_st u q1)).bind fun r2 => some (.inr r2))) q
def obX5_crossings (g : kG) (D : Nat → Nat → Nat) (R : kAd) (u : ShS) (ts : TS) (bs : SS) (ps : PS) (hs : HS) (ns : NS) : (Nat) ⊕ (Int32) → kOut Unit
  | .inl E => .inl (E, fun _ => wB g D R u ts bs ps hs ns)
  | .inr v => .inr ((some (.int v)), fun _ => wB g D R u ts bs ps hs ns)
set_option maxRecDepth 100000 in
set_option maxHeartbeats 4000000 in
theorem kX5_crossings (l : Launch) (hl9 : l.stackTraces = false) (g : kG) (D : Nat → Nat → Nat) (R : kAd) (p1 : Int32) (u : ShS) (ts : TS) (bs : SS) (ps : PS) (hs : HS) (ns : NS) (o : (Nat) ⊕ (Int32)) (hm : fX5_crossings p1 u = some o) : KX (S := Unit) l yX5_crossings wsX5_crossings rX5_crossings g [.ref (D 0 0), .int p1] (wB g D R u ts bs ps hs ns) (obX5_crossings g D R u ts bs ps hs ns o) 1 6 := by
  refine KX.of (nL := 2) (by decide) rfl (Nat.le_of_ble_eq_true rfl) ?_
  intro p e s m args below meth c A ls C htab X hl
  have C : CT g p s m args meth c RX5 cX5_crossings 2 (some .int) wsX5_crossings A := C
  have hx := C.1
  have hb := C.2.1
  have hl : lv_has ls 2 [(0, .ref (D 0 0)), (1, .int p1)] := hl
  rw [fX5_crossings] at hm
  refine lv_aload_n hx hb dX5_crossings_0 rfl (lv_at hl 0 rfl) ?_
  refine lv_iload_n hx hb dX5_crossings_1 rfl (lv_at hl 1 rfl) ?_
  obtain ⟨q, hcl, hm⟩ := bnd hm
  rcases q with E | q1
  · have hm := se_l hm
    cases sm hm
    exact kxVt _ (pm_wh _) C htab X (kX5_existingStroke l hl9 g D R p1 u ts bs ps hs ns (.inl E) hcl) (cw_X5_crossings_X5_existingStroke_87 C) 0 (ci := 5) rfl rfl (As := [.int p1]) rfl hl (rest := []) rfl (Nat.le_of_ble_eq_true rfl) dX5_crossings_2 ⟨Nat.le_of_ble_eq_true rfl, Nat.le_of_ble_eq_true rfl⟩ (Nat.le_of_ble_eq_true rfl) (Nat.le_of_ble_eq_true rfl) (fun _ => ⟨(), (pm_wi _)⟩)
  have hm := se_r hm
  refine kxV _ (pm_wh _) C X (kX5_existingStroke l hl9 g D R p1 u ts bs ps hs ns (.inr q1) hcl) (cw_X5_crossings_X5_existingStroke_87 C) 0 (ci := 5) rfl rfl (As := [.int p1]) rfl hl (rest := []) rfl (Nat.le_of_ble_eq_true rfl) (st2 := [.ref (D 1 (3 + 2 * q1))]) rfl dX5_crossings_2 ⟨Nat.le_of_ble_eq_true rfl, Nat.le_of_ble_eq_true rfl⟩ (w3 := (fun _ => wB g D R u ts bs ps hs ns)) (fun _ => (pm_wi _)) (fun _ H locs X => ?_)
  clear hcl
  obtain ⟨hgk, hm⟩ := gd_t hm
  have hgk := of_decide_eq_true hgk
  obtain ⟨r2, hcl, hm⟩ := bnd hm
  refine kVp _ (bs_out hgk) C X (kX3_countCrossings l g (sa (D 1) q1) (Sh_st u q1) r2 hcl) (cw_X5_crossings_X3_countCrossings_252 C) 0 (ci := 3) rfl rfl (As := []) rfl hl (rest := []) rfl (Nat.le_of_ble_eq_true rfl) (st2 := [.int r2]) rfl dX5_crossings_5 ⟨Nat.le_of_ble_eq_true rfl, Nat.le_of_ble_eq_true rfl⟩ (w3 := wB g D R u ts bs ps hs ns) (bs_in0 hgk) (fun H locs X => ?_)
  clear hcl
  cases sm hm
  exact kxret () (Nat.le_of_ble_eq_true rfl) (Nat.le_of_ble_eq_true rfl) (kiret C X dX5_crossings_8)
-- X5 BrushStrokes.setting(I)I
abbrev rX5_setting : Room := { frames := 7, cells := 1, slots := 6, locals := 110 }
theorem fl_X5_setting_10 : (Cond.fieldLink RX5 10 "BrushStrokes" "sheet" "LBrushStrokes$Sheet;") ∈ wsX5_setting := by decide +kernel
theorem in_X5_setting_X5 : ∀ w ∈ u_ws RX5 TX5 5, w ∈ wsX5_setting := by decide +kernel
theorem cw_X5_setting_X5_requireSetting_166 {p : Program} {s : State} {m : MethodId} {args : Array Value} {meth : Method} {c : Code} {g : kG} {A : Nat → Prop} (C : CT g p s m args meth c RX5 cX5_setting 2 (some .int) wsX5_setting A) : CallB rX5_setting s args RX5 166 yX5_requireSetting cX5_requireSetting 1 none wsX5_requireSetting rX5_requireSetting 1 6 1 ∧ (Cond.static yX5_requireSetting).before args s = true := va_cwS 1 C.2.2.2.2.2.1 gX5_setting_X5_requireSetting rfl rfl rfl (by decide +kernel) ⟨Nat.le_of_ble_eq_true rfl, Nat.le_of_ble_eq_true rfl⟩
theorem cw_X5_setting_X1_value_147 {p : Program} {s : State} {m : MethodId} {args : Array Value} {meth : Method} {c : Code} {g : kG} {A : Nat → Prop} (C : CT g p s m args meth c RX5 cX5_setting 2 (some .int) wsX5_setting A) : CallW rX5_setting s args RX5 RX1 147 yX1_value cX1_value 2 (some .int) wsX1_value rX1_value 0 0 1 := cwV 1 C.2.2.2.2.2.1 gX5_setting_X1_value rfl rfl rfl (by decide +kernel) ⟨Nat.le_of_ble_eq_true rfl, Nat.le_of_ble_eq_true rfl⟩
noncomputable def fX5_setting (p1 : Int32) (u : ShS) : Option ((Nat) ⊕ (Int32)) := (fX5_requireSetting p1).bind fun q => Sum.elim (fun E => some (.inl E)) (fun _ => (fX1_value p1 u).bind fun r1 => some (.inr r1)) q
def obX5_setting (g : kG) (D : Nat → Nat → Nat) (R : kAd) (u : ShS) (ts : TS) (bs : SS) (ps : PS) (hs : HS) (ns : NS) : (Nat) ⊕ (Int32) → kOut Unit
  | .inl E => .inl (E, fun _ => wB g D R u ts bs ps hs ns)
  | .inr v => .inr ((some (.int v)), fun _ => wB g D R u ts bs ps hs ns)
set_option maxRecDepth 100000 in
set_option maxHeartbeats 4000000 in
theorem kX5_setting (l : Launch) (hl9 : l.stackTraces = false) (g : kG) (D : Nat → Nat → Nat) (R : kAd) (p1 : Int32) (u : ShS) (ts : TS) (bs : SS) (ps : PS) (hs : HS) (ns : NS) (o : (Nat) ⊕ (Int32)) (hm : fX5_setting p1 u = some o) : KX (S := Unit) l yX5_setting wsX5_setting rX5_setting g [.ref (D 0 0), .int p1] (wB g D R u ts bs ps hs ns) (obX5_setting g D R u ts bs ps hs ns o) 1 6 := by
  refine KX.of (nL := 2) (by decide) rfl (Nat.le_of_ble_eq_true rfl) ?_
  intro p e s m args below meth c A ls C htab X hl
  have C : CT g p s m args meth c RX5 cX5_setting 2 (some .int) wsX5_setting A := C
  have hx := C.1
  have hb := C.2.1
  have hl : lv_has ls 2 [(0, .ref (D 0 0)), (1, .int p1)] := hl
  have hinX5 := in_X5_setting_X5
  have hf10 := C.2.2.2.2.2.1 _ fl_X5_setting_10
  rw [fX5_setting] at hm
  refine lv_iload_n hx hb dX5_setting_0 rfl (lv_at hl 1 rfl) ?_
  obtain ⟨q, hcl, hm⟩ := bnd hm
  rcases q with E | ⟨⟩
  · have hm := se_l hm
    cases sm hm
    exact kxSt _ (pm_no _) C htab X (kX5_requireSetting l hl9 g p1 (.inl E) hcl) (cw_X5_setting_X5_requireSetting_166 C) (As := [.int p1]) rfl hl (rest := []) rfl (Nat.le_of_ble_eq_true rfl) dX5_setting_1 ⟨Nat.le_of_ble_eq_true rfl, Nat.le_of_ble_eq_true rfl⟩ (Nat.le_of_ble_eq_true rfl) (Nat.le_of_ble_eq_true rfl) (fun _ => ⟨(), (pm_ni _)⟩)
  have hm := se_r hm
  refine kxS _ (pm_no _) C X (kX5_requireSetting l hl9 g p1 (.inr ()) hcl) (cw_X5_setting_X5_requireSetting_166 C) (As := [.int p1]) rfl hl (rest := []) rfl (Nat.le_of_ble_eq_true rfl) (st2 := []) rfl dX5_setting_1 ⟨Nat.le_of_ble_eq_true rfl, Nat.le_of_ble_eq_true rfl⟩ (w3 := (fun _ => wB g D R u ts bs ps hs ns)) (fun _ => (pm_ni _)) (fun _ H locs X => ?_)
  clear hcl
  refine lv_aload_n hx hb dX5_setting_4 rfl (lv_at hl 0 rfl) ?_
  refine kget C X 0 (ci := 5) rfl rfl hinX5 0 (by decide) hf10 (v := .ref (D 1 0)) rfl dX5_setting_5 ?_
  refine lv_iload_n hx hb dX5_setting_8 rfl (lv_at hl 1 rfl) ?_
  obtain ⟨r1, hcl, hm⟩ := bnd hm
  refine kVp _ b1_out C X (kX1_value l g (D 1) p1 u r1 hcl) (cw_X5_setting_X1_value_147 C) 0 (ci := 1) rfl rfl (As := [.int p1]) rfl hl (rest := []) rfl (Nat.le_of_ble_eq_true rfl) (st2 := [.int r1]) rfl dX5_setting_9 ⟨Nat.le_of_ble_eq_true rfl, Nat.le_of_ble_eq_true rfl⟩ (w3 := wB g D R u ts bs ps hs ns) (b1_in u) (fun H locs X => ?_)
  clear hcl
  cases sm hm
  exact kxret () (Nat.le_of_ble_eq_true rfl) (Nat.le_of_ble_eq_true rfl) (kiret C X dX5_setting_12)
-- X5 BrushStrokes.nearest(II)I
abbrev rX5_nearest : Room := { frames := 8, cells := 2, slots := 12, locals := 133 }
theorem fl_X5_nearest_10 : (Cond.fieldLink RX5 10 "BrushStrokes" "sheet" "LBrushStrokes$Sheet;") ∈ wsX5_nearest := by decide +kernel
theorem in_X5_nearest_X5 : ∀ w ∈ u_ws RX5 TX5 5, w ∈ wsX5_nearest := by decide +kernel
theorem cw_X5_nearest_X1_nearestPoint_269 {p : Program} {s : State} {m : MethodId} {args : Array Value} {meth : Method} {c : Code} {g : kG} {A : Nat → Prop} (C : CT g p s m args meth c RX5 cX5_nearest 3 (some .int) wsX5_nearest A) : CallW rX5_nearest s args RX5 RX1 269 yX1_nearestPoint cX1_nearestPoint 9 (some .int) wsX1_nearestPoint rX1_nearestPoint 0 0 2 := cwV 2 C.2.2.2.2.2.1 gX5_nearest_X1_nearestPoint rfl rfl rfl (by decide +kernel) ⟨Nat.le_of_ble_eq_true rfl, Nat.le_of_ble_eq_true rfl⟩
theorem cw_X5_nearest_X5_requirePlace_41 {p : Program} {s : State} {m : MethodId} {args : Array Value} {meth : Method} {c : Code} {g : kG} {A : Nat → Prop} (C : CT g p s m args meth c RX5 cX5_nearest 3 (some .int) wsX5_nearest A) : CallB rX5_nearest s args RX5 41 yX5_requirePlace cX5_requirePlace 2 none wsX5_requirePlace rX5_requirePlace 2 12 2 ∧ (Cond.static yX5_requirePlace).before args s = true := va_cwS 2 C.2.2.2.2.2.1 gX5_nearest_X5_requirePlace rfl rfl rfl (by decide +kernel) ⟨Nat.le_of_ble_eq_true rfl, Nat.le_of_ble_eq_true rfl⟩
noncomputable def fX5_nearest (p1 : Int32) (p2 : Int32) (u : ShS) : Option ((Nat) ⊕ (Int32)) := (fX5_requirePlace p1 p2).bind fun q => Sum.elim (fun E => some (.inl E)) (fun _ => (fX1_nearestPoint p1 p2 u).bind fun r1 => some (.inr r1)) q
def obX5_nearest (g : kG) (D : Nat → Nat → Nat) (R : kAd) (u : ShS) (ts : TS) (bs : SS) (ps : PS) (hs : HS) (ns : NS) : (Nat) ⊕ (Int32) → kOut Unit
  | .inl E => .inl (E, fun _ => wB g D R u ts bs ps hs ns)
  | .inr v => .inr ((some (.int v)), fun _ => wB g D R u ts bs ps hs ns)
set_option maxRecDepth 100000 in
set_option maxHeartbeats 4000000 in
theorem kX5_nearest (l : Launch) (hl9 : l.stackTraces = false) (g : kG) (D : Nat → Nat → Nat) (R : kAd) (p1 : Int32) (p2 : Int32) (u : ShS) (ts : TS) (bs : SS) (ps : PS) (hs : HS) (ns : NS) (o : (Nat) ⊕ (Int32)) (hm : fX5_nearest p1 p2 u = some o) : KX (S := Unit) l yX5_nearest wsX5_nearest rX5_nearest g [.ref (D 0 0), .int p1, .int p2] (wB g D R u ts bs ps hs ns) (obX5_nearest g D R u ts bs ps hs ns o) 2 12 := by
  refine KX.of (nL := 3) (by decide) rfl (Nat.le_of_ble_eq_true rfl) ?_
  intro p e s m args below meth c A ls C htab X hl
  have C : CT g p s m args meth c RX5 cX5_nearest 3 (some .int) wsX5_nearest A := C
  have hx := C.1
  have hb := C.2.1
  have hl : lv_has ls 3 [(0, .ref (D 0 0)), (1, .int p1), (2, .int p2)] := hl
  have hinX5 := in_X5_nearest_X5
  have hf10 := C.2.2.2.2.2.1 _ fl_X5_nearest_10
  rw [fX5_nearest] at hm
  refine lv_iload_n hx hb dX5_nearest_0 rfl (lv_at hl 1 rfl) ?_
  refine lv_iload_n hx hb dX5_nearest_1 rfl (lv_at hl 2 rfl) ?_
  obtain ⟨q, hcl, hm⟩ := bnd hm
  rcases q with E | ⟨⟩
  · have hm := se_l hm
    cases sm hm
    exact kxSt _ (pm_no _) C htab X (kX5_requirePlace l hl9 g p1 p2 (.inl E) hcl) (cw_X5_nearest_X5_requirePlace_41 C) (As := [.int p1, .int p2]) rfl hl (rest := []) rfl (Nat.le_of_ble_eq_true rfl) dX5_nearest_2 ⟨Nat.le_of_ble_eq_true rfl, Nat.le_of_ble_eq_true rfl⟩ (Nat.le_of_ble_eq_true rfl) (Nat.le_of_ble_eq_true rfl) (fun _ => ⟨(), (pm_ni _)⟩)
  have hm := se_r hm
  refine kxS _ (pm_no _) C X (kX5_requirePlace l hl9 g p1 p2 (.inr ()) hcl) (cw_X5_nearest_X5_requirePlace_41 C) (As := [.int p1, .int p2]) rfl hl (rest := []) rfl (Nat.le_of_ble_eq_true rfl) (st2 := []) rfl dX5_nearest_2 ⟨Nat.le_of_ble_eq_true rfl, Nat.le_of_ble_eq_true rfl⟩ (w3 := (fun _ => wB g D R u ts bs ps hs ns)) (fun _ => (pm_ni _)) (fun _ H locs X => ?_)
  clear hcl
  refine lv_aload_n hx hb dX5_nearest_5 rfl (lv_at hl 0 rfl) ?_
  refine kget C X 0 (ci := 5) rfl rfl hinX5 0 (by decide) hf10 (v := .ref (D 1 0)) rfl dX5_nearest_6 ?_
  refine lv_iload_n hx hb dX5_nearest_9 rfl (lv_at hl 1 rfl) ?_
  refine lv_iload_n hx hb dX5_nearest_10 rfl (lv_at hl 2 rfl) ?_
  obtain ⟨r1, hcl, hm⟩ := bnd hm
  refine kVp _ b1_out C X (kX1_nearestPoint l g (D 1) p1 p2 u r1 hcl) (cw_X5_nearest_X1_nearestPoint_269 C) 0 (ci := 1) rfl rfl (As := [.int p1, .int p2]) rfl hl (rest := []) rfl (Nat.le_of_ble_eq_true rfl) (st2 := [.int r1]) rfl dX5_nearest_11 ⟨Nat.le_of_ble_eq_true rfl, Nat.le_of_ble_eq_true rfl⟩ (w3 := wB g D R u ts bs ps hs ns) (b1_in u) (fun H locs X => ?_)
  clear hcl
  cases sm hm
  exact kxret () (Nat.le_of_ble_eq_true rfl) (Nat.le_of_ble_eq_true rfl) (kiret C X dX5_nearest_14)
-- X5 BrushStrokes.ifSimplified(III)I
abbrev rX5_ifSimplified : Room := { frames := 8, cells := 3, slots := 18, locals := 164 }
theorem fl_X5_ifSimplified_10 : (Cond.fieldLink RX5 10 "BrushStrokes" "sheet" "LBrushStrokes$Sheet;") ∈ wsX5_ifSimplified := by decide +kernel
theorem fl_X5_ifSimplified_37 : (Cond.fieldLink RX5 37 "BrushStrokes" "simplifier" "LBrushStrokes$Simplifier;") ∈ wsX5_ifSimplified := by decide +kernel
theorem in_X5_ifSimplified_X5 : ∀ w ∈ u_ws RX5 TX5 5, w ∈ wsX5_ifSimplified := by decide +kernel
theorem cw_X5_ifSimplified_X5_requireBetween_180 {p : Program} {s : State} {m : MethodId} {args : Array Value} {meth : Method} {c : Code} {g : kG} {A : Nat → Prop} (C : CT g p s m args meth c RX5 cX5_ifSimplified 5 (some .int) wsX5_ifSimplified A) : CallB rX5_ifSimplified s args RX5 180 yX5_requireBetween cX5_requireBetween 3 none wsX5_requireBetween rX5_requireBetween 1 6 3 ∧ (Cond.static yX5_requireBetween).before args s = true := va_cwS 3 C.2.2.2.2.2.1 gX5_ifSimplified_X5_requireBetween rfl rfl rfl (by decide +kernel) ⟨Nat.le_of_ble_eq_true rfl, Nat.le_of_ble_eq_true rfl⟩
theorem cw_X5_ifSimplified_X5_requireWay_140 {p : Program} {s : State} {m : MethodId} {args : Array Value} {meth : Method} {c : Code} {g : kG} {A : Nat → Prop} (C : CT g p s m args meth c RX5 cX5_ifSimplified 5 (some .int) wsX5_ifSimplified A) : CallB rX5_ifSimplified s args RX5 140 yX5_requireWay cX5_requireWay 1 none wsX5_requireWay rX5_requireWay 1 6 1 ∧ (Cond.static yX5_requireWay).before args s = true := va_cwS 1 C.2.2.2.2.2.1 gX5_ifSimplified_X5_requireWay rfl rfl rfl (by decide +kernel) ⟨Nat.le_of_ble_eq_true rfl, Nat.le_of_ble_eq_true rfl⟩
theorem cw_X5_ifSimplified_X5_existingStroke_87 {p : Program} {s : State} {m : MethodId} {args : Array Value} {meth : Method} {c : Code} {g : kG} {A : Nat → Prop} (C : CT g p s m args meth c RX5 cX5_ifSimplified 5 (some .int) wsX5_ifSimplified A) : CallW rX5_ifSimplified s args RX5 RX5 87 yX5_existingStroke cX5_existingStroke 2 (some (.object "BrushStrokes$Stroke")) wsX5_existingStroke rX5_existingStroke 1 6 1 := cwV 1 C.2.2.2.2.2.1 gX5_ifSimplified_X5_existingStroke rfl rfl rfl (by decide +kernel) ⟨Nat.le_of_ble_eq_true rfl, Nat.le_of_ble_eq_true rfl⟩
theorem cw_X5_ifSimplified_X1_fixedPoints_143 {p : Program} {s : State} {m : MethodId} {args : Array Value} {meth : Method} {c : Code} {g : kG} {A : Nat → Prop} (C : CT g p s m args meth c RX5 cX5_ifSimplified 5 (some .int) wsX5_ifSimplified A) : CallW rX5_ifSimplified s args RX5 RX1 143 yX1_fixedPoints cX1_fixedPoints 4 (some .int) wsX1_fixedPoints rX1_fixedPoints 0 0 1 := cwV 1 C.2.2.2.2.2.1 gX5_ifSimplified_X1_fixedPoints rfl rfl rfl (by decide +kernel) ⟨Nat.le_of_ble_eq_true rfl, Nat.le_of_ble_eq_true rfl⟩
theorem cw_X5_ifSimplified_X2_keptPoints_150 {p : Program} {s : State} {m : MethodId} {args : Array Value} {meth : Method} {c : Code} {g : kG} {A : Nat → Prop} (C : CT g p s m args meth c RX5 cX5_ifSimplified 5 (some .int) wsX5_ifSimplified A) : CallW rX5_ifSimplified s args RX5 RX2 150 yX2_keptPoints cX2_keptPoints 5 (some .int) wsX2_keptPoints rX2_keptPoints 0 0 4 := cwV 4 C.2.2.2.2.2.1 gX5_ifSimplified_X2_keptPoints rfl rfl rfl (by decide +kernel) ⟨Nat.le_of_ble_eq_true rfl, Nat.le_of_ble_eq_true rfl⟩
theorem cw_X5_ifSimplified_J6_bitCount_0f7a4_273 {p : Program} {s : State} {m : MethodId} {args : Array Value} {meth : Method} {c : Code} {g : kG} {A : Nat → Prop} (C : CT g p s m args meth c RX5 cX5_ifSimplified 5 (some .int) wsX5_ifSimplified A) : CallB rX5_ifSimplified s args RX5 273 yJ6_bitCount_0f7a4 cJ6_bitCount_0f7a4 1 (some .int) wsJ6_bitCount_0f7a4 rJ6_bitCount_0f7a4 0 0 1 ∧ (Cond.static yJ6_bitCount_0f7a4).before args s = true := va_cwS 1 C.2.2.2.2.2.1 gX5_ifSimplified_J6_bitCount_0f7a4 rfl rfl rfl (by decide +kernel) ⟨Nat.le_of_ble_eq_true rfl, Nat.le_of_ble_eq_true rfl⟩
noncomputable def fX5_ifSimplified (p1 : Int32) (p2 : Int32) (p3 : Int32) (u : ShS) (ps : PS) : Option ((Nat × PS) ⊕ (Int32 × PS)) := (fX5_existingStroke p1 u).bind fun q => Sum.elim (fun E => some (.inl (E, ps))) (fun q1 => (fX5_requireBetween p2 0 50).bind fun q => Sum.elim (fun E => some (.inl (E, ps))) (fun _ => (fX5_requireWay p3).bind fun q => Sum.elim (fun E => some (.inl (E, ps))) (fun _ => (fX1_fixedPoints q1 u).bind fun r2 => gd (decide (q1 < 5)) ((fX2_keptPoints r2 p2 p3 ps (Sh_st u q1)).bind fun (r3, s4) => (fJ6_bitCount_0f7a4 r3).bind fun r5 => some (.inr (r5, s4)))) q) q) q
def obX5_ifSimplified (g : kG) (D : Nat → Nat → Nat) (R : kAd) (u : ShS) (ts : TS) (bs : SS) (ps : PS) (hs : HS) (ns : NS) : (Nat × PS) ⊕ (Int32 × PS) → kOut Unit
  | .inl (E, ps2) => .inl (E, fun _ => wB g D R u ts bs ps2 hs ns)
  | .inr (v, ps2) => .inr ((some (.int v)), fun _ => wB g D R u ts bs ps2 hs ns)
set_option maxRecDepth 100000 in
set_option maxHeartbeats 4000000 in
theorem kX5_ifSimplified (l : Launch) (hl9 : l.stackTraces = false) (g : kG) (D : Nat → Nat → Nat) (R : kAd) (p1 : Int32) (p2 : Int32) (p3 : Int32) (u : ShS) (ts : TS) (bs : SS) (ps : PS) (hs : HS) (ns : NS) (o : (Nat × PS) ⊕ (Int32 × PS)) (hm : fX5_ifSimplified p1 p2 p3 u ps = some o) : KX (S := Unit) l yX5_ifSimplified wsX5_ifSimplified rX5_ifSimplified g [.ref (D 0 0), .int p1, .int p2, .int p3] (wB g D R u ts bs ps hs ns) (obX5_ifSimplified g D R u ts bs ps hs ns o) 3 18 := by
  refine KX.of (nL := 5) (by decide) rfl (Nat.le_of_ble_eq_true rfl) ?_
  intro p e s m args below meth c A ls C htab X hl
  have C : CT g p s m args meth c RX5 cX5_ifSimplified 5 (some .int) wsX5_ifSimplified A := C
  have hx := C.1
  have hb := C.2.1
  have hl : lv_has ls 5 [(0, .ref (D 0 0)), (1, .int p1), (2, .int p2), (3, .int p3)] := hl
  have hinX5 := in_X5_ifSimplified_X5
  have hf10 := C.2.2.2.2.2.1 _ fl_X5_ifSimplified_10
  have hf37 := C.2.2.2.2.2.1 _ fl_X5_ifSimplified_37
  rw [fX5_ifSimplified] at hm
  refine lv_aload_n hx hb dX5_ifSimplified_0 rfl (lv_at hl 0 rfl) ?_
  refine lv_iload_n hx hb dX5_ifSimplified_1 rfl (lv_at hl 1 rfl) ?_
  obtain ⟨q, hcl, hm⟩ := bnd hm
  rcases q with E | q1
  · have hm := se_l hm
    cases sm hm
    exact kxVt _ (pm_wh _) C htab X (kX5_existingStroke l hl9 g D R p1 u ts bs ps hs ns (.inl E) hcl) (cw_X5_ifSimplified_X5_existingStroke_87 C) 0 (ci := 5) rfl rfl (As := [.int p1]) rfl hl (rest := []) rfl (Nat.le_of_ble_eq_true rfl) dX5_ifSimplified_2 ⟨Nat.le_of_ble_eq_true rfl, Nat.le_of_ble_eq_true rfl⟩ (Nat.le_of_ble_eq_true rfl) (Nat.le_of_ble_eq_true rfl) (fun _ => ⟨(), (pm_wi _)⟩)
  have hm := se_r hm
  refine kxV _ (pm_wh _) C X (kX5_existingStroke l hl9 g D R p1 u ts bs ps hs ns (.inr q1) hcl) (cw_X5_ifSimplified_X5_existingStroke_87 C) 0 (ci := 5) rfl rfl (As := [.int p1]) rfl hl (rest := []) rfl (Nat.le_of_ble_eq_true rfl) (st2 := [.ref (D 1 (3 + 2 * q1))]) rfl dX5_ifSimplified_2 ⟨Nat.le_of_ble_eq_true rfl, Nat.le_of_ble_eq_true rfl⟩ (w3 := (fun _ => wB g D R u ts bs ps hs ns)) (fun _ => (pm_wi _)) (fun _ H locs X => ?_)
  clear hcl
  refine lv_astore (lv' := [(4, .ref (D 1 (3 + 2 * q1))), (0, .ref (D 0 0)), (1, .int p1), (2, .int p2), (3, .int p3)]) hx hb dX5_ifSimplified_5 hl (by decide) rfl (fun ls hl => ?_)
  refine lv_iload_n hx hb dX5_ifSimplified_7 rfl (lv_at hl 3 rfl) ?_
  refine lv_iconst (v := 0) hx hb dX5_ifSimplified_8 (by decide) ?_
  refine lv_bipush (v := 50) hx hb dX5_ifSimplified_9 (by decide) ?_
  obtain ⟨q, hcl, hm⟩ := bnd hm
  rcases q with E | ⟨⟩
  · have hm := se_l hm
    cases sm hm
    exact kxSt _ (pm_no _) C htab X (kX5_requireBetween l hl9 g p2 0 50 (.inl E) hcl) (cw_X5_ifSimplified_X5_requireBetween_180 C) (As := [.int p2, .int 0, .int 50]) rfl hl (rest := []) rfl (Nat.le_of_ble_eq_true rfl) dX5_ifSimplified_11 ⟨Nat.le_of_ble_eq_true rfl, Nat.le_of_ble_eq_true rfl⟩ (Nat.le_of_ble_eq_true rfl) (Nat.le_of_ble_eq_true rfl) (fun _ => ⟨(), (pm_ni _)⟩)
  have hm := se_r hm
  refine kxS _ (pm_no _) C X (kX5_requireBetween l hl9 g p2 0 50 (.inr ()) hcl) (cw_X5_ifSimplified_X5_requireBetween_180 C) (As := [.int p2, .int 0, .int 50]) rfl hl (rest := []) rfl (Nat.le_of_ble_eq_true rfl) (st2 := []) rfl dX5_ifSimplified_11 ⟨Nat.le_of_ble_eq_true rfl, Nat.le_of_ble_eq_true rfl⟩ (w3 := (fun _ => wB g D R u ts bs ps hs ns)) (fun _ => (pm_ni _)) (fun _ H locs X => ?_)
  clear hcl
  refine lv_iload_n hx hb dX5_ifSimplified_14 rfl (lv_at hl 4 rfl) ?_
  obtain ⟨q, hcl, hm⟩ := bnd hm
  rcases q with E | ⟨⟩
  · have hm := se_l hm
    cases sm hm
    exact kxSt _ (pm_no _) C htab X (kX5_requireWay l hl9 g p3 (.inl E) hcl) (cw_X5_ifSimplified_X5_requireWay_140 C) (As := [.int p3]) rfl hl (rest := []) rfl (Nat.le_of_ble_eq_true rfl) dX5_ifSimplified_15 ⟨Nat.le_of_ble_eq_true rfl, Nat.le_of_ble_eq_true rfl⟩ (Nat.le_of_ble_eq_true rfl) (Nat.le_of_ble_eq_true rfl) (fun _ => ⟨(), (pm_ni _)⟩)
  have hm := se_r hm
  refine kxS _ (pm_no _) C X (kX5_requireWay l hl9 g p3 (.inr ()) hcl) (cw_X5_ifSimplified_X5_requireWay_140 C) (As := [.int p3]) rfl hl (rest := []) rfl (Nat.le_of_ble_eq_true rfl) (st2 := []) rfl dX5_ifSimplified_15 ⟨Nat.le_of_ble_eq_true rfl, Nat.le_of_ble_eq_true rfl⟩ (w3 := (fun _ => wB g D R u ts bs ps hs ns)) (fun _ => (pm_ni _)) (fun _ H locs X => ?_)
  clear hcl
  refine lv_aload_n hx hb dX5_ifSimplified_18 rfl (lv_at hl 1 rfl) ?_
  refine kget C X 0 (ci := 5) rfl rfl hinX5 4 (by decide) hf37 (v := .ref (D 4 0)) rfl dX5_ifSimplified_19 ?_
  refine lv_aload hx hb dX5_ifSimplified_22 (lv_at hl 0 rfl) ?_
  refine lv_aload_n hx hb dX5_ifSimplified_24 rfl (lv_at hl 1 rfl) ?_
  refine kget C X 0 (ci := 5) rfl rfl hinX5 0 (by decide) hf10 (v := .ref (D 1 0)) rfl dX5_ifSimplified_25 ?_
  refine lv_aload hx hb dX5_ifSimplified_28 (lv_at hl 0 rfl) ?_
  obtain ⟨r2, hcl, hm⟩ := bnd hm
  refine kVp _ b1_out C X (kX1_fixedPoints l g (D 1) q1 u r2 hcl) (cw_X5_ifSimplified_X1_fixedPoints_143 C) 0 (ci := 1) rfl rfl (As := [.ref (D 1 (3 + 2 * q1))]) rfl hl (rest := [.ref (D 1 (3 + 2 * q1)), .ref (D 4 0)]) rfl (Nat.le_of_ble_eq_true rfl) (st2 := [.int r2, .ref (D 1 (3 + 2 * q1)), .ref (D 4 0)]) rfl dX5_ifSimplified_30 ⟨Nat.le_of_ble_eq_true rfl, Nat.le_of_ble_eq_true rfl⟩ (w3 := wB g D R u ts bs ps hs ns) (b1_in u) (fun H locs X => ?_)
  clear hcl
  refine lv_iload_n hx hb dX5_ifSimplified_33 rfl (lv_at hl 3 rfl) ?_
  refine lv_iload_n hx hb dX5_ifSimplified_34 rfl (lv_at hl 4 rfl) ?_
  obtain ⟨hgk, hm⟩ := gd_t hm
  have hgk := of_decide_eq_true hgk
  obtain ⟨⟨r3, s4⟩, hcl, hm⟩ := bnd hm
  refine kVp _ (bp_out hgk) C X (kX2_keptPoints l g (D 4) (sa (D 1) q1) r2 p2 p3 ps (Sh_st u q1) r3 s4 hcl) (cw_X5_ifSimplified_X2_keptPoints_150 C) 0 (ci := 2) rfl rfl (As := [.ref (D 1 (3 + 2 * q1)), .int r2, .int p2, .int p3]) rfl hl (rest := []) rfl (Nat.le_of_ble_eq_true rfl) (st2 := [.int r3]) rfl dX5_ifSimplified_35 ⟨Nat.le_of_ble_eq_true rfl, Nat.le_of_ble_eq_true rfl⟩ (w3 := wB g D R u ts bs s4 hs ns) (bp_in0 hgk s4) (fun H locs X => ?_)
  clear hcl
  obtain ⟨r5, hcl, hm⟩ := bnd hm
  refine kS0c C X (kJ6_bitCount_0f7a4 l g r3 r5 hcl) (cw_X5_ifSimplified_J6_bitCount_0f7a4_273 C) (As := [.int r3]) rfl hl (rest := []) rfl (Nat.le_of_ble_eq_true rfl) (st2 := [.int r5]) rfl dX5_ifSimplified_38 ⟨Nat.le_of_ble_eq_true rfl, Nat.le_of_ble_eq_true rfl⟩ (fun H locs X => ?_)
  clear hcl
  cases sm hm
  exact kxret () (Nat.le_of_ble_eq_true rfl) (Nat.le_of_ble_eq_true rfl) (kiret C X dX5_ifSimplified_41)
-- X5 BrushStrokes.leastBound(III)I
abbrev rX5_leastBound : Room := { frames := 8, cells := 3, slots := 18, locals := 166 }
theorem fl_X5_leastBound_10 : (Cond.fieldLink RX5 10 "BrushStrokes" "sheet" "LBrushStrokes$Sheet;") ∈ wsX5_leastBound := by decide +kernel
theorem fl_X5_leastBound_37 : (Cond.fieldLink RX5 37 "BrushStrokes" "simplifier" "LBrushStrokes$Simplifier;") ∈ wsX5_leastBound := by decide +kernel
theorem in_X5_leastBound_X5 : ∀ w ∈ u_ws RX5 TX5 5, w ∈ wsX5_leastBound := by decide +kernel
theorem cw_X5_leastBound_X5_requireBetween_180 {p : Program} {s : State} {m : MethodId} {args : Array Value} {meth : Method} {c : Code} {g : kG} {A : Nat → Prop} (C : CT g p s m args meth c RX5 cX5_leastBound 5 (some .int) wsX5_leastBound A) : CallB rX5_leastBound s args RX5 180 yX5_requireBetween cX5_requireBetween 3 none wsX5_requireBetween rX5_requireBetween 1 6 3 ∧ (Cond.static yX5_requireBetween).before args s = true := va_cwS 3 C.2.2.2.2.2.1 gX5_leastBound_X5_requireBetween rfl rfl rfl (by decide +kernel) ⟨Nat.le_of_ble_eq_true rfl, Nat.le_of_ble_eq_true rfl⟩
theorem cw_X5_leastBound_X5_requireWay_140 {p : Program} {s : State} {m : MethodId} {args : Array Value} {meth : Method} {c : Code} {g : kG} {A : Nat → Prop} (C : CT g p s m args meth c RX5 cX5_leastBound 5 (some .int) wsX5_leastBound A) : CallB rX5_leastBound s args RX5 140 yX5_requireWay cX5_requireWay 1 none wsX5_requireWay rX5_requireWay 1 6 1 ∧ (Cond.static yX5_requireWay).before args s = true := va_cwS 1 C.2.2.2.2.2.1 gX5_leastBound_X5_requireWay rfl rfl rfl (by decide +kernel) ⟨Nat.le_of_ble_eq_true rfl, Nat.le_of_ble_eq_true rfl⟩
theorem cw_X5_leastBound_X5_existingStroke_87 {p : Program} {s : State} {m : MethodId} {args : Array Value} {meth : Method} {c : Code} {g : kG} {A : Nat → Prop} (C : CT g p s m args meth c RX5 cX5_leastBound 5 (some .int) wsX5_leastBound A) : CallW rX5_leastBound s args RX5 RX5 87 yX5_existingStroke cX5_existingStroke 2 (some (.object "BrushStrokes$Stroke")) wsX5_existingStroke rX5_existingStroke 1 6 1 := cwV 1 C.2.2.2.2.2.1 gX5_leastBound_X5_existingStroke rfl rfl rfl (by decide +kernel) ⟨Nat.le_of_ble_eq_true rfl, Nat.le_of_ble_eq_true rfl⟩
theorem cw_X5_leastBound_X1_fixedPoints_143 {p : Program} {s : State} {m : MethodId} {args : Array Value} {meth : Method} {c : Code} {g : kG} {A : Nat → Prop} (C : CT g p s m args meth c RX5 cX5_leastBound 5 (some .int) wsX5_leastBound A) : CallW rX5_leastBound s args RX5 RX1 143 yX1_fixedPoints cX1_fixedPoints 4 (some .int) wsX1_fixedPoints rX1_fixedPoints 0 0 1 := cwV 1 C.2.2.2.2.2.1 gX5_leastBound_X1_fixedPoints rfl rfl rfl (by decide +kernel) ⟨Nat.le_of_ble_eq_true rfl, Nat.le_of_ble_eq_true rfl⟩
theorem cw_X5_leastBound_X2_leastBoundFor_278 {p : Program} {s : State} {m : MethodId} {args : Array Value} {meth : Method} {c : Code} {g : kG} {A : Nat → Prop} (C : CT g p s m args meth c RX5 cX5_leastBound 5 (some .int) wsX5_leastBound A) : CallW rX5_leastBound s args RX5 RX2 278 yX2_leastBoundFor cX2_leastBoundFor 7 (some .int) wsX2_leastBoundFor rX2_leastBoundFor 0 0 4 := cwV 4 C.2.2.2.2.2.1 gX5_leastBound_X2_leastBoundFor rfl rfl rfl (by decide +kernel) ⟨Nat.le_of_ble_eq_true rfl, Nat.le_of_ble_eq_true rfl⟩
noncomputable def fX5_leastBound (p1 : Int32) (p2 : Int32) (p3 : Int32) (u : ShS) (ps : PS) : Option ((Nat × PS) ⊕ (Int32 × PS)) := (fX5_existingStroke p1 u).bind fun q => Sum.elim (fun E => some (.inl (E, ps))) (fun q1 => (fX5_requireBetween p2 2 24).bind fun q => Sum.elim (fun E => some (.inl (E, ps))) (fun _ => (fX5_requireWay p3).bind fun q => Sum.elim (fun E => some (.inl (E, ps))) (fun _ => (fX1_fixedPoints q1 u).bind fun r2 => gd (decide (q1 < 5)) ((fX2_leastBoundFor r2 p2 p3 ps (Sh_st u q1)).bind fun (r3, s4) => some (.inr (r3, s4)))) q) q) q
def obX5_leastBound (g : kG) (D : Nat → Nat → Nat) (R : kAd) (u : ShS) (ts : TS) (bs : SS) (ps : PS) (hs : HS) (ns : NS) : (Nat × PS) ⊕ (Int32 × PS) → kOut Unit
  | .inl (E, ps2) => .inl (E, fun _ => wB g D R u ts bs ps2 hs ns)
  | .inr (v, ps2) => .inr ((some (.int v)), fun _ => wB g D R u ts bs ps2 hs ns)
set_option maxRecDepth 100000 in
set_option maxHeartbeats 4000000 in
theorem kX5_leastBound (l : Launch) (hl9 : l.stackTraces = false) (g : kG) (D : Nat → Nat → Nat) (R : kAd) (p1 : Int32) (p2 : Int32) (p3 : Int32) (u : ShS) (ts : TS) (bs : SS) (ps : PS) (hs : HS) (ns : NS) (o : (Nat × PS) ⊕ (Int32 × PS)) (hm : fX5_leastBound p1 p2 p3 u ps = some o) : KX (S := Unit) l yX5_leastBound wsX5_leastBound rX5_leastBound g [.ref (D 0 0), .int p1, .int p2, .int p3] (wB g D R u ts bs ps hs ns) (obX5_leastBound g D R u ts bs ps hs ns o) 3 18 := by
  refine KX.of (nL := 5) (by decide) rfl (Nat.le_of_ble_eq_true rfl) ?_
  intro p e s m args below meth c A ls C htab X hl
  have C : CT g p s m args meth c RX5 cX5_leastBound 5 (some .int) wsX5_leastBound A := C
  have hx := C.1
  have hb := C.2.1
  have hl : lv_has ls 5 [(0, .ref (D 0 0)), (1, .int p1), (2, .int p2), (3, .int p3)] := hl
  have hinX5 := in_X5_leastBound_X5
  have hf10 := C.2.2.2.2.2.1 _ fl_X5_leastBound_10
  have hf37 := C.2.2.2.2.2.1 _ fl_X5_leastBound_37
  rw [fX5_leastBound] at hm
  refine lv_aload_n hx hb dX5_leastBound_0 rfl (lv_at hl 0 rfl) ?_
  refine lv_iload_n hx hb dX5_leastBound_1 rfl (lv_at hl 1 rfl) ?_
  obtain ⟨q, hcl, hm⟩ := bnd hm
  rcases q with E | q1
  · have hm := se_l hm
    cases sm hm
    exact kxVt _ (pm_wh _) C htab X (kX5_existingStroke l hl9 g D R p1 u ts bs ps hs ns (.inl E) hcl) (cw_X5_leastBound_X5_existingStroke_87 C) 0 (ci := 5) rfl rfl (As := [.int p1]) rfl hl (rest := []) rfl (Nat.le_of_ble_eq_true rfl) dX5_leastBound_2 ⟨Nat.le_of_ble_eq_true rfl, Nat.le_of_ble_eq_true rfl⟩ (Nat.le_of_ble_eq_true rfl) (Nat.le_of_ble_eq_true rfl) (fun _ => ⟨(), (pm_wi _)⟩)
  have hm := se_r hm
  refine kxV _ (pm_wh _) C X (kX5_existingStroke l hl9 g D R p1 u ts bs ps hs ns (.inr q1) hcl) (cw_X5_leastBound_X5_existingStroke_87 C) 0 (ci := 5) rfl rfl (As := [.int p1]) rfl hl (rest := []) rfl (Nat.le_of_ble_eq_true rfl) (st2 := [.ref (D 1 (3 + 2 * q1))]) rfl dX5_leastBound_2 ⟨Nat.le_of_ble_eq_true rfl, Nat.le_of_ble_eq_true rfl⟩ (w3 := (fun _ => wB g D R u ts bs ps hs ns)) (fun _ => (pm_wi _)) (fun _ H locs X => ?_)
  clear hcl
  refine lv_astore (lv' := [(4, .ref (D 1 (3 + 2 * q1))), (0, .ref (D 0 0)), (1, .int p1), (2, .int p2), (3, .int p3)]) hx hb dX5_leastBound_5 hl (by decide) rfl (fun ls hl => ?_)
  refine lv_iload_n hx hb dX5_leastBound_7 rfl (lv_at hl 3 rfl) ?_
  refine lv_iconst (v := 2) hx hb dX5_leastBound_8 (by decide) ?_
  refine lv_bipush (v := 24) hx hb dX5_leastBound_9 (by decide) ?_
  obtain ⟨q, hcl, hm⟩ := bnd hm
  rcases q with E | ⟨⟩
  · have hm := se_l hm
    cases sm hm
    exact kxSt _ (pm_no _) C htab X (kX5_requireBetween l hl9 g p2 2 24 (.inl E) hcl) (cw_X5_leastBound_X5_requireBetween_180 C) (As := [.int p2, .int 2, .int 24]) rfl hl (rest := []) rfl (Nat.le_of_ble_eq_true rfl) dX5_leastBound_11 ⟨Nat.le_of_ble_eq_true rfl, Nat.le_of_ble_eq_true rfl⟩ (Nat.le_of_ble_eq_true rfl) (Nat.le_of_ble_eq_true rfl) (fun _ => ⟨(), (pm_ni _)⟩)
  have hm := se_r hm
  refine kxS _ (pm_no _) C X (kX5_requireBetween l hl9 g p2 2 24 (.inr ()) hcl) (cw_X5_leastBound_X5_requireBetween_180 C) (As := [.int p2, .int 2, .int 24]) rfl hl (rest := []) rfl (Nat.le_of_ble_eq_true rfl) (st2 := []) rfl dX5_leastBound_11 ⟨Nat.le_of_ble_eq_true rfl, Nat.le_of_ble_eq_true rfl⟩ (w3 := (fun _ => wB g D R u ts bs ps hs ns)) (fun _ => (pm_ni _)) (fun _ H locs X => ?_)
  clear hcl
  refine lv_iload_n hx hb dX5_leastBound_14 rfl (lv_at hl 4 rfl) ?_
  obtain ⟨q, hcl, hm⟩ := bnd hm
  rcases q with E | ⟨⟩
  · have hm := se_l hm
    cases sm hm
    exact kxSt _ (pm_no _) C htab X (kX5_requireWay l hl9 g p3 (.inl E) hcl) (cw_X5_leastBound_X5_requireWay_140 C) (As := [.int p3]) rfl hl (rest := []) rfl (Nat.le_of_ble_eq_true rfl) dX5_leastBound_15 ⟨Nat.le_of_ble_eq_true rfl, Nat.le_of_ble_eq_true rfl⟩ (Nat.le_of_ble_eq_true rfl) (Nat.le_of_ble_eq_true rfl) (fun _ => ⟨(), (pm_ni _)⟩)
  have hm := se_r hm
  refine kxS _ (pm_no _) C X (kX5_requireWay l hl9 g p3 (.inr ()) hcl) (cw_X5_leastBound_X5_requireWay_140 C) (As := [.int p3]) rfl hl (rest := []) rfl (Nat.le_of_ble_eq_true rfl) (st2 := []) rfl dX5_leastBound_15 ⟨Nat.le_of_ble_eq_true rfl, Nat.le_of_ble_eq_true rfl⟩ (w3 := (fun _ => wB g D R u ts bs ps hs ns)) (fun _ => (pm_ni _)) (fun _ H locs X => ?_)
  clear hcl
  refine lv_aload_n hx hb dX5_leastBound_18 rfl (lv_at hl 1 rfl) ?_
  refine kget C X 0 (ci := 5) rfl rfl hinX5 4 (by decide) hf37 (v := .ref (D 4 0)) rfl dX5_leastBound_19 ?_
  refine lv_aload hx hb dX5_leastBound_22 (lv_at hl 0 rfl) ?_
  refine lv_aload_n hx hb dX5_leastBound_24 rfl (lv_at hl 1 rfl) ?_
  refine kget C X 0 (ci := 5) rfl rfl hinX5 0 (by decide) hf10 (v := .ref (D 1 0)) rfl dX5_leastBound_25 ?_
  refine lv_aload hx hb dX5_leastBound_28 (lv_at hl 0 rfl) ?_
  obtain ⟨r2, hcl, hm⟩ := bnd hm
  refine kVp _ b1_out C X (kX1_fixedPoints l g (D 1) q1 u r2 hcl) (cw_X5_leastBound_X1_fixedPoints_143 C) 0 (ci := 1) rfl rfl (As := [.ref (D 1 (3 + 2 * q1))]) rfl hl (rest := [.ref (D 1 (3 + 2 * q1)), .ref (D 4 0)]) rfl (Nat.le_of_ble_eq_true rfl) (st2 := [.int r2, .ref (D 1 (3 + 2 * q1)), .ref (D 4 0)]) rfl dX5_leastBound_30 ⟨Nat.le_of_ble_eq_true rfl, Nat.le_of_ble_eq_true rfl⟩ (w3 := wB g D R u ts bs ps hs ns) (b1_in u) (fun H locs X => ?_)
  clear hcl
  refine lv_iload_n hx hb dX5_leastBound_33 rfl (lv_at hl 3 rfl) ?_
  refine lv_iload_n hx hb dX5_leastBound_34 rfl (lv_at hl 4 rfl) ?_
  obtain ⟨hgk, hm⟩ := gd_t hm
  have hgk := of_decide_eq_true hgk
  obtain ⟨⟨r3, s4⟩, hcl, hm⟩ := bnd hm
  refine kVp _ (bp_out hgk) C X (kX2_leastBoundFor l g (D 4) (sa (D 1) q1) r2 p2 p3 ps (Sh_st u q1) r3 s4 hcl) (cw_X5_leastBound_X2_leastBoundFor_278 C) 0 (ci := 2) rfl rfl (As := [.ref (D 1 (3 + 2 * q1)), .int r2, .int p2, .int p3]) rfl hl (rest := []) rfl (Nat.le_of_ble_eq_true rfl) (st2 := [.int r3]) rfl dX5_leastBound_35 ⟨Nat.le_of_ble_eq_true rfl, Nat.le_of_ble_eq_true rfl⟩ (w3 := wB g D R u ts bs s4 hs ns) (bp_in0 hgk s4) (fun H locs X => ?_)
  clear hcl
  cases sm hm
  exact kxret () (Nat.le_of_ble_eq_true rfl) (Nat.le_of_ble_eq_true rfl) (kiret C X dX5_leastBound_38)
-- X5 BrushStrokes.append(I)I
abbrev rX5_append : Room := { frames := 7, cells := 2, slots := 12, locals := 112 }
theorem fl_X5_append_30 : (Cond.fieldLink RX5 30 "BrushStrokes" "text" "LBrushStrokes$StrokeText;") ∈ wsX5_append := by decide +kernel
theorem in_X5_append_X5 : ∀ w ∈ u_ws RX5 TX5 5, w ∈ wsX5_append := by decide +kernel
theorem xw_X5_append_107 : (Cond.classLink RX5 103 (kEx 2)) ∈ wsX5_append ∧ (Cond.initialized (kEx 2)) ∈ wsX5_append ∧ (∀ w ∈ (vx_atS RX5 107 (kEx 2) ["java/lang/RuntimeException", "java/lang/Exception"]).filter goodWord, w ∈ wsX5_append) ∧ (∀ w ∈ (vx_atS RX5 107 (kEx 2) ["java/lang/RuntimeException", "java/lang/Exception"]).filter (fun w => !goodWord w), w ∈ Cond.castable (kEx 2) (kEx 2) :: kDecl.map Cond.declares) ∧ ∀ w ∈ Cond.classLink RX5 103 (kEx 2) :: Cond.initialized (kEx 2) :: vx_atS RX5 107 (kEx 2) ["java/lang/RuntimeException", "java/lang/Exception"], vx_ot w = true := by decide +kernel
theorem cw_X5_append_X4_length_186 {p : Program} {s : State} {m : MethodId} {args : Array Value} {meth : Method} {c : Code} {g : kG} {A : Nat → Prop} (C : CT g p s m args meth c RX5 cX5_append 2 (some .int) wsX5_append A) : CallW rX5_append s args RX5 RX4 186 yX4_length cX4_length 1 (some .int) wsX4_length rX4_length 0 0 0 := cwV 0 C.2.2.2.2.2.1 gX5_append_X4_length rfl rfl rfl (by decide +kernel) ⟨Nat.le_of_ble_eq_true rfl, Nat.le_of_ble_eq_true rfl⟩
theorem cw_X5_append_X4_addCode_191 {p : Program} {s : State} {m : MethodId} {args : Array Value} {meth : Method} {c : Code} {g : kG} {A : Nat → Prop} (C : CT g p s m args meth c RX5 cX5_append 2 (some .int) wsX5_append A) : CallW rX5_append s args RX5 RX4 191 yX4_addCode cX4_addCode 2 none wsX4_addCode rX4_addCode 0 0 1 := cwV 1 C.2.2.2.2.2.1 gX5_append_X4_addCode rfl rfl rfl (by decide +kernel) ⟨Nat.le_of_ble_eq_true rfl, Nat.le_of_ble_eq_true rfl⟩
theorem cw_X5_append_X5_requireBetween_180 {p : Program} {s : State} {m : MethodId} {args : Array Value} {meth : Method} {c : Code} {g : kG} {A : Nat → Prop} (C : CT g p s m args meth c RX5 cX5_append 2 (some .int) wsX5_append A) : CallB rX5_append s args RX5 180 yX5_requireBetween cX5_requireBetween 3 none wsX5_requireBetween rX5_requireBetween 1 6 3 ∧ (Cond.static yX5_requireBetween).before args s = true := va_cwS 3 C.2.2.2.2.2.1 gX5_append_X5_requireBetween rfl rfl rfl (by decide +kernel) ⟨Nat.le_of_ble_eq_true rfl, Nat.le_of_ble_eq_true rfl⟩
noncomputable def fX5_append (p1 : Int32) (ts : TS) (bs : SS) : Option ((Nat × TS) ⊕ (Int32 × TS)) := (fX5_requireBetween p1 33 126).bind fun q => Sum.elim (fun E => some (.inl (E, ts))) (fun _ => (fX4_length ts bs).bind fun r1 => if r1 < 70 then ((fX4_addCode p1 ts bs).bind fun s2 => (fX4_length s2 bs).bind fun r3 => some (.inr (r3, s2))) else (some (.inl (2, ts)))) q
def obX5_append (g : kG) (D : Nat → Nat → Nat) (R : kAd) (u : ShS) (ts : TS) (bs : SS) (ps : PS) (hs : HS) (ns : NS) : (Nat × TS) ⊕ (Int32 × TS) → kOut Unit
  | .inl (E, ts2) => .inl (E, fun _ => wB g D R u ts2 bs ps hs ns)
  | .inr (v, ts2) => .inr ((some (.int v)), fun _ => wB g D R u ts2 bs ps hs ns)
set_option maxRecDepth 100000 in
set_option maxHeartbeats 4000000 in
theorem kX5_append (l : Launch) (hl9 : l.stackTraces = false) (g : kG) (D : Nat → Nat → Nat) (R : kAd) (p1 : Int32) (u : ShS) (ts : TS) (bs : SS) (ps : PS) (hs : HS) (ns : NS) (o : (Nat × TS) ⊕ (Int32 × TS)) (hm : fX5_append p1 ts bs = some o) : KX (S := Unit) l yX5_append wsX5_append rX5_append g [.ref (D 0 0), .int p1] (wB g D R u ts bs ps hs ns) (obX5_append g D R u ts bs ps hs ns o) 2 12 := by
  refine KX.of (nL := 2) (by decide) rfl (Nat.le_of_ble_eq_true rfl) ?_
  intro p e s m args below meth c A ls C htab X hl
  have C : CT g p s m args meth c RX5 cX5_append 2 (some .int) wsX5_append A := C
  have hx := C.1
  have hb := C.2.1
  have hl : lv_has ls 2 [(0, .ref (D 0 0)), (1, .int p1)] := hl
  have hinX5 := in_X5_append_X5
  have hf30 := C.2.2.2.2.2.1 _ fl_X5_append_30
  rw [fX5_append] at hm
  refine lv_iload_n hx hb dX5_append_0 rfl (lv_at hl 1 rfl) ?_
  refine lv_bipush (v := 33) hx hb dX5_append_1 (by decide) ?_
  refine lv_bipush (v := 126) hx hb dX5_append_3 (by decide) ?_
  obtain ⟨q, hcl, hm⟩ := bnd hm
  rcases q with E | ⟨⟩
  · have hm := se_l hm
    cases sm hm
    exact kxSt _ (pm_no _) C htab X (kX5_requireBetween l hl9 g p1 33 126 (.inl E) hcl) (cw_X5_append_X5_requireBetween_180 C) (As := [.int p1, .int 33, .int 126]) rfl hl (rest := []) rfl (Nat.le_of_ble_eq_true rfl) dX5_append_5 ⟨Nat.le_of_ble_eq_true rfl, Nat.le_of_ble_eq_true rfl⟩ (Nat.le_of_ble_eq_true rfl) (Nat.le_of_ble_eq_true rfl) (fun _ => ⟨(), (pm_ni _)⟩)
  have hm := se_r hm
  refine kxS _ (pm_no _) C X (kX5_requireBetween l hl9 g p1 33 126 (.inr ()) hcl) (cw_X5_append_X5_requireBetween_180 C) (As := [.int p1, .int 33, .int 126]) rfl hl (rest := []) rfl (Nat.le_of_ble_eq_true rfl) (st2 := []) rfl dX5_append_5 ⟨Nat.le_of_ble_eq_true rfl, Nat.le_of_ble_eq_true rfl⟩ (w3 := (fun _ => wB g D R u ts bs ps hs ns)) (fun _ => (pm_ni _)) (fun _ H locs X => ?_)
  clear hcl
  refine lv_aload_n hx hb dX5_append_8 rfl (lv_at hl 0 rfl) ?_
  refine kget C X 0 (ci := 5) rfl rfl hinX5 3 (by decide) hf30 (v := .ref (D 2 0)) rfl dX5_append_9 ?_
  obtain ⟨r1, hcl, hm⟩ := bnd hm
  refine kVp _ b2_out C X (kX4_length l g (D 2) (D 3) ts bs r1 hcl) (cw_X5_append_X4_length_186 C) 0 (ci := 4) rfl rfl (As := []) rfl hl (rest := []) rfl (Nat.le_of_ble_eq_true rfl) (st2 := [.int r1]) rfl dX5_append_12 ⟨Nat.le_of_ble_eq_true rfl, Nat.le_of_ble_eq_true rfl⟩ (w3 := wB g D R u ts bs ps hs ns) (b2_in ts bs) (fun H locs X => ?_)
  clear hcl
  refine lv_bipush (v := 70) hx hb dX5_append_15 (by decide) ?_
  refine lv_icmp_lt (tgt := 30) hx hb dX5_append_17 (by decide) (fun hc => ?_) (fun hc => ?_)
  · have hm := ifp hc hm
    refine lv_aload_n hx hb dX5_append_30 rfl (lv_at hl 0 rfl) ?_
    refine kget C X 0 (ci := 5) rfl rfl hinX5 3 (by decide) hf30 (v := .ref (D 2 0)) rfl dX5_append_31 ?_
    refine lv_iload_n hx hb dX5_append_34 rfl (lv_at hl 1 rfl) ?_
    obtain ⟨s2, hcl, hm⟩ := bnd hm
    refine kVp _ b2_out C X (kX4_addCode l g (D 2) (D 3) p1 ts bs s2 hcl) (cw_X5_append_X4_addCode_191 C) 0 (ci := 4) rfl rfl (As := [.int p1]) rfl hl (rest := []) rfl (Nat.le_of_ble_eq_true rfl) (st2 := []) rfl dX5_append_35 ⟨Nat.le_of_ble_eq_true rfl, Nat.le_of_ble_eq_true rfl⟩ (w3 := wB g D R u s2 bs ps hs ns) (b2_in s2 bs) (fun H locs X => ?_)
    clear hcl
    refine lv_aload_n hx hb dX5_append_38 rfl (lv_at hl 0 rfl) ?_
    refine kget C X 0 (ci := 5) rfl rfl hinX5 3 (by decide) hf30 (v := .ref (D 2 0)) rfl dX5_append_39 ?_
    obtain ⟨r3, hcl, hm⟩ := bnd hm
    refine kVp _ b2_out C X (kX4_length l g (D 2) (D 3) s2 bs r3 hcl) (cw_X5_append_X4_length_186 C) 0 (ci := 4) rfl rfl (As := []) rfl hl (rest := []) rfl (Nat.le_of_ble_eq_true rfl) (st2 := [.int r3]) rfl dX5_append_42 ⟨Nat.le_of_ble_eq_true rfl, Nat.le_of_ble_eq_true rfl⟩ (w3 := wB g D R u s2 bs ps hs ns) (b2_in s2 bs) (fun H locs X => ?_)
    clear hcl
    cases sm hm
    exact kxret () (Nat.le_of_ble_eq_true rfl) (Nat.le_of_ble_eq_true rfl) (kiret C X dX5_append_45)
  · have hm := ifn hc hm
    cases sm hm
    exact kxthrow (E := 2) () (names := ["java/lang/RuntimeException", "java/lang/Exception"]) (ik := 103) (is := 189) (ic := 107) (text := "the buffer is full") C htab X hl9 hl (by decide) (by decide) rfl (by decide) xw_X5_append_107.1 xw_X5_append_107.2.1 xw_X5_append_107.2.2.1 xw_X5_append_107.2.2.2.1 (by decide) xw_X5_append_107.2.2.2.2 dX5_append_20 dX5_append_23 dX5_append_24 dX5_append_26 dX5_append_29 (Nat.le_of_ble_eq_true rfl) (Nat.le_of_ble_eq_true rfl) (Nat.le_of_ble_eq_true rfl) (Nat.le_of_ble_eq_true rfl) (Nat.le_of_ble_eq_true rfl) (Nat.le_of_ble_eq_true rfl)
-- X5 BrushStrokes.clearBuffer()I
abbrev rX5_clearBuffer : Room := { frames := 1, cells := 0, slots := 0, locals := 20 }
theorem fl_X5_clearBuffer_30 : (Cond.fieldLink RX5 30 "BrushStrokes" "text" "LBrushStrokes$StrokeText;") ∈ wsX5_clearBuffer := by decide +kernel
theorem in_X5_clearBuffer_X5 : ∀ w ∈ u_ws RX5 TX5 5, w ∈ wsX5_clearBuffer := by decide +kernel
theorem cw_X5_clearBuffer_X4_empty_84 {p : Program} {s : State} {m : MethodId} {args : Array Value} {meth : Method} {c : Code} {g : kG} {A : Nat → Prop} (C : CT g p s m args meth c RX5 cX5_clearBuffer 2 (some .int) wsX5_clearBuffer A) : CallW rX5_clearBuffer s args RX5 RX4 84 yX4_empty cX4_empty 1 none wsX4_empty rX4_empty 0 0 0 := cwV 0 C.2.2.2.2.2.1 gX5_clearBuffer_X4_empty rfl rfl rfl (by decide +kernel) ⟨Nat.le_of_ble_eq_true rfl, Nat.le_of_ble_eq_true rfl⟩
theorem cw_X5_clearBuffer_X4_length_186 {p : Program} {s : State} {m : MethodId} {args : Array Value} {meth : Method} {c : Code} {g : kG} {A : Nat → Prop} (C : CT g p s m args meth c RX5 cX5_clearBuffer 2 (some .int) wsX5_clearBuffer A) : CallW rX5_clearBuffer s args RX5 RX4 186 yX4_length cX4_length 1 (some .int) wsX4_length rX4_length 0 0 0 := cwV 0 C.2.2.2.2.2.1 gX5_clearBuffer_X4_length rfl rfl rfl (by decide +kernel) ⟨Nat.le_of_ble_eq_true rfl, Nat.le_of_ble_eq_true rfl⟩
noncomputable def fX5_clearBuffer (ts : TS) (bs : SS) : Option ((Nat × TS) ⊕ (Int32 × TS)) := (fX4_length ts bs).bind fun r1 => (fX4_empty ts bs).bind fun s2 => some (.inr (r1, s2))
def obX5_clearBuffer (g : kG) (D : Nat → Nat → Nat) (R : kAd) (u : ShS) (ts : TS) (bs : SS) (ps : PS) (hs : HS) (ns : NS) : (Nat × TS) ⊕ (Int32 × TS) → kOut Unit
  | .inl (E, ts2) => .inl (E, fun _ => wB g D R u ts2 bs ps hs ns)
  | .inr (v, ts2) => .inr ((some (.int v)), fun _ => wB g D R u ts2 bs ps hs ns)
set_option maxRecDepth 100000 in
set_option maxHeartbeats 4000000 in
theorem kX5_clearBuffer (l : Launch) (hl9 : l.stackTraces = false) (g : kG) (D : Nat → Nat → Nat) (R : kAd) (u : ShS) (ts : TS) (bs : SS) (ps : PS) (hs : HS) (ns : NS) (o : (Nat × TS) ⊕ (Int32 × TS)) (hm : fX5_clearBuffer ts bs = some o) : KX (S := Unit) l yX5_clearBuffer wsX5_clearBuffer rX5_clearBuffer g [.ref (D 0 0)] (wB g D R u ts bs ps hs ns) (obX5_clearBuffer g D R u ts bs ps hs ns o) 0 0 := by
  refine KX.of (nL := 2) (by decide) rfl (Nat.le_of_ble_eq_true rfl) ?_
  intro p e s m args below meth c A ls C htab X hl
  have C : CT g p s m args meth c RX5 cX5_clearBuffer 2 (some .int) wsX5_clearBuffer A := C
  have hx := C.1
  have hb := C.2.1
  have hl : lv_has ls 2 [(0, .ref (D 0 0))] := hl
  have hinX5 := in_X5_clearBuffer_X5
  have hf30 := C.2.2.2.2.2.1 _ fl_X5_clearBuffer_30
  rw [fX5_clearBuffer] at hm
  refine lv_aload_n hx hb dX5_clearBuffer_0 rfl (lv_at hl 0 rfl) ?_
  refine kget C X 0 (ci := 5) rfl rfl hinX5 3 (by decide) hf30 (v := .ref (D 2 0)) rfl dX5_clearBuffer_1 ?_
  obtain ⟨r1, hcl, hm⟩ := bnd hm
  refine kVp _ b2_out C X (kX4_length l g (D 2) (D 3) ts bs r1 hcl) (cw_X5_clearBuffer_X4_length_186 C) 0 (ci := 4) rfl rfl (As := []) rfl hl (rest := []) rfl (Nat.le_of_ble_eq_true rfl) (st2 := [.int r1]) rfl dX5_clearBuffer_4 ⟨Nat.le_of_ble_eq_true rfl, Nat.le_of_ble_eq_true rfl⟩ (w3 := wB g D R u ts bs ps hs ns) (b2_in ts bs) (fun H locs X => ?_)
  clear hcl
  refine lv_istore_n (lv' := [(1, .int r1), (0, .ref (D 0 0))]) hx hb dX5_clearBuffer_7 rfl hl (by decide) rfl (fun ls hl => ?_)
  refine lv_aload_n hx hb dX5_clearBuffer_8 rfl (lv_at hl 1 rfl) ?_
  refine kget C X 0 (ci := 5) rfl rfl hinX5 3 (by decide) hf30 (v := .ref (D 2 0)) rfl dX5_clearBuffer_9 ?_
  obtain ⟨s2, hcl, hm⟩ := bnd hm
  refine kVp _ b2_out C X (kX4_empty l g (D 2) (D 3) ts bs s2 hcl) (cw_X5_clearBuffer_X4_empty_84 C) 0 (ci := 4) rfl rfl (As := []) rfl hl (rest := []) rfl (Nat.le_of_ble_eq_true rfl) (st2 := []) rfl dX5_clearBuffer_12 ⟨Nat.le_of_ble_eq_true rfl, Nat.le_of_ble_eq_true rfl⟩ (w3 := wB g D R u s2 bs ps hs ns) (b2_in s2 bs) (fun H locs X => ?_)
  clear hcl
  refine lv_iload_n hx hb dX5_clearBuffer_15 rfl (lv_at hl 0 rfl) ?_
  cases sm hm
  exact kxret () (Nat.le_of_ble_eq_true rfl) (Nat.le_of_ble_eq_true rfl) (kiret C X dX5_clearBuffer_16)
-- X5 BrushStrokes.firstError()I
abbrev rX5_firstError : Room := { frames := 5, cells := 0, slots := 0, locals := 110 }
theorem fl_X5_firstError_30 : (Cond.fieldLink RX5 30 "BrushStrokes" "text" "LBrushStrokes$StrokeText;") ∈ wsX5_firstError := by decide +kernel
theorem in_X5_firstError_X5 : ∀ w ∈ u_ws RX5 TX5 5, w ∈ wsX5_firstError := by decide +kernel
theorem cw_X5_firstError_X4_readToError_194 {p : Program} {s : State} {m : MethodId} {args : Array Value} {meth : Method} {c : Code} {g : kG} {A : Nat → Prop} (C : CT g p s m args meth c RX5 cX5_firstError 1 (some .int) wsX5_firstError A) : CallW rX5_firstError s args RX5 RX4 194 yX4_readToError cX4_readToError 2 (some .int) wsX4_readToError rX4_readToError 0 0 0 := cwV 0 C.2.2.2.2.2.1 gX5_firstError_X4_readToError rfl rfl rfl (by decide +kernel) ⟨Nat.le_of_ble_eq_true rfl, Nat.le_of_ble_eq_true rfl⟩
noncomputable def fX5_firstError (ts : TS) (bs : SS) : Option ((Nat × TS × SS) ⊕ (Int32 × TS × SS)) := (fX4_readToError ts bs).bind fun (r1, s2, s3) => some (.inr (r1, s2, s3))
def obX5_firstError (g : kG) (D : Nat → Nat → Nat) (R : kAd) (u : ShS) (ts : TS) (bs : SS) (ps : PS) (hs : HS) (ns : NS) : (Nat × TS × SS) ⊕ (Int32 × TS × SS) → kOut Unit
  | .inl (E, ts2, bs2) => .inl (E, fun _ => wB g D R u ts2 bs2 ps hs ns)
  | .inr (v, ts2, bs2) => .inr ((some (.int v)), fun _ => wB g D R u ts2 bs2 ps hs ns)
set_option maxRecDepth 100000 in
set_option maxHeartbeats 4000000 in
theorem kX5_firstError (l : Launch) (hl9 : l.stackTraces = false) (g : kG) (D : Nat → Nat → Nat) (R : kAd) (u : ShS) (ts : TS) (bs : SS) (ps : PS) (hs : HS) (ns : NS) (o : (Nat × TS × SS) ⊕ (Int32 × TS × SS)) (hm : fX5_firstError ts bs = some o) : KX (S := Unit) l yX5_firstError wsX5_firstError rX5_firstError g [.ref (D 0 0)] (wB g D R u ts bs ps hs ns) (obX5_firstError g D R u ts bs ps hs ns o) 0 0 := by
  refine KX.of (nL := 1) (by decide) rfl (Nat.le_of_ble_eq_true rfl) ?_
  intro p e s m args below meth c A ls C htab X hl
  have C : CT g p s m args meth c RX5 cX5_firstError 1 (some .int) wsX5_firstError A := C
  have hx := C.1
  have hb := C.2.1
  have hl : lv_has ls 1 [(0, .ref (D 0 0))] := hl
  have hinX5 := in_X5_firstError_X5
  have hf30 := C.2.2.2.2.2.1 _ fl_X5_firstError_30
  rw [fX5_firstError] at hm
  refine lv_aload_n hx hb dX5_firstError_0 rfl (lv_at hl 0 rfl) ?_
  refine kget C X 0 (ci := 5) rfl rfl hinX5 3 (by decide) hf30 (v := .ref (D 2 0)) rfl dX5_firstError_1 ?_
  obtain ⟨⟨r1, s2, s3⟩, hcl, hm⟩ := bnd hm
  refine kVp _ b2_out C X (kX4_readToError l g (D 2) (D 3) ts bs r1 s2 s3 hcl) (cw_X5_firstError_X4_readToError_194 C) 0 (ci := 4) rfl rfl (As := []) rfl hl (rest := []) rfl (Nat.le_of_ble_eq_true rfl) (st2 := [.int r1]) rfl dX5_firstError_4 ⟨Nat.le_of_ble_eq_true rfl, Nat.le_of_ble_eq_true rfl⟩ (w3 := wB g D R u s2 s3 ps hs ns) (b2_in s2 s3) (fun H locs X => ?_)
  clear hcl
  cases sm hm
  exact kxret () (Nat.le_of_ble_eq_true rfl) (Nat.le_of_ble_eq_true rfl) (kiret C X dX5_firstError_7)
