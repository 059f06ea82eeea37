-- X5 BrushStrokes.cell([II)I
abbrev rX5_cellT1 : Room := { frames := 0, cells := 0, slots := 0, locals := 0 }
noncomputable def fX5_cellT1 (p1 : Int32) : Option (Int32) := ((if p1 < 0 then (some 0) else (if 4 ≤ p1 then (some 0) else (gd (inb p1 4) (some (kf1 p1.toNatClampNeg))))) : Option (Int32)).bind fun v1 => some v1
set_option maxRecDepth 100000 in
set_option maxHeartbeats 4000000 in
theorem kX5_cellT1 (l : Launch) (g : kG) (p1 : Int32) (o1 : Int32) (hm : fX5_cellT1 p1 = some o1) : KM l yX5_cell wsX5_cell rX5_cell g [.ref (g.2.2.2.1), .int p1] ([]) (some (.int o1)) ([]) 0 0 := by
  refine KM.of (nL := 2) (by decide) rfl (Nat.le_of_ble_eq_true rfl) ?_
  intro p e s m args below meth c A ls C X hl
  have C : CT g p s m args meth c RX5 cX5_cell 2 (some .int) wsX5_cell A := C
  have hx := C.1
  have hb := C.2.1
  have hl : lv_has ls 2 [(0, .ref (g.2.2.2.1)), (1, .int p1)] := hl
  rw [fX5_cellT1] at hm
  refine lv_iload_n hx hb dX5_cell_0 rfl (lv_at hl 1 rfl) ?_
  obtain ⟨v1, hE, hm⟩ := bnd hm
  have K : ∀ (H : Heap) (locs : List Loc) (ls : Array Slot), ST g A s H locs ([]) → lv_has ls 2 [] → W p l e rX5_cell s m args below meth c H locs 0 0 (kEnd g below args s (some (.int o1)) ([]) A 0 0) (F0 m 17 ls [.int v1]) := by
    intro H locs ls X hl
    clear hE
    cases sm hm
    exact kiret C X dX5_cell_17
  clear hm
  have hm := hE
  clear hE
  refine lv_if_lt (tgt := 16) hx hb dX5_cell_1 (by decide) (fun hc => ?_) (fun hc => ?_)
  · have hm := ifp hc hm
    refine lv_iconst (v := 0) hx hb dX5_cell_16 (by decide) ?_
    cases sm hm
    exact K _ _ _ X (lv_sub hl [] rfl)
  · have hm := ifn hc hm
    refine lv_iload_n hx hb dX5_cell_4 rfl (lv_at hl 1 rfl) ?_
    refine lv_aload_n hx hb dX5_cell_5 rfl (lv_at hl 0 rfl) ?_
    refine kslen1 C X dX5_cell_6 ?_
    refine lv_icmp_ge (tgt := 16) hx hb dX5_cell_7 (by decide) (fun hc => ?_) (fun hc => ?_)
    · have hm := ifp hc hm
      refine lv_iconst (v := 0) hx hb dX5_cell_16 (by decide) ?_
      cases sm hm
      exact K _ _ _ X (lv_sub hl [] rfl)
    · have hm := ifn hc hm
      refine lv_aload_n hx hb dX5_cell_10 rfl (lv_at hl 0 rfl) ?_
      refine lv_iload_n hx hb dX5_cell_11 rfl (lv_at hl 1 rfl) ?_
      obtain ⟨hgi, hm⟩ := gd_t hm
      refine ksld1 C X hgi dX5_cell_12 ?_
      refine lv_goto (tgt := 17) hx hb dX5_cell_13 (by decide) ?_
      cases sm hm
      exact K _ _ _ X (lv_sub hl [] rfl)
-- X5 BrushStrokes.cell([II)I
abbrev rX5_cellT2 : Room := { frames := 0, cells := 0, slots := 0, locals := 0 }
noncomputable def fX5_cellT2 (p1 : Int32) : Option (Int32) := ((if p1 < 0 then (some 0) else (if 4 ≤ p1 then (some 0) else (gd (inb p1 4) (some (kf2 p1.toNatClampNeg))))) : Option (Int32)).bind fun v1 => some v1
set_option maxRecDepth 100000 in
set_option maxHeartbeats 4000000 in
theorem kX5_cellT2 (l : Launch) (g : kG) (p1 : Int32) (o1 : Int32) (hm : fX5_cellT2 p1 = some o1) : KM l yX5_cell wsX5_cell rX5_cell g [.ref (g.2.2.2.2), .int p1] ([]) (some (.int o1)) ([]) 0 0 := by
  refine KM.of (nL := 2) (by decide) rfl (Nat.le_of_ble_eq_true rfl) ?_
  intro p e s m args below meth c A ls C X hl
  have C : CT g p s m args meth c RX5 cX5_cell 2 (some .int) wsX5_cell A := C
  have hx := C.1
  have hb := C.2.1
  have hl : lv_has ls 2 [(0, .ref (g.2.2.2.2)), (1, .int p1)] := hl
  rw [fX5_cellT2] at hm
  refine lv_iload_n hx hb dX5_cell_0 rfl (lv_at hl 1 rfl) ?_
  obtain ⟨v1, hE, hm⟩ := bnd hm
  have K : ∀ (H : Heap) (locs : List Loc) (ls : Array Slot), ST g A s H locs ([]) → lv_has ls 2 [] → W p l e rX5_cell s m args below meth c H locs 0 0 (kEnd g below args s (some (.int o1)) ([]) A 0 0) (F0 m 17 ls [.int v1]) := by
    intro H locs ls X hl
    clear hE
    cases sm hm
    exact kiret C X dX5_cell_17
  clear hm
  have hm := hE
  clear hE
  refine lv_if_lt (tgt := 16) hx hb dX5_cell_1 (by decide) (fun hc => ?_) (fun hc => ?_)
  · have hm := ifp hc hm
    refine lv_iconst (v := 0) hx hb dX5_cell_16 (by decide) ?_
    cases sm hm
    exact K _ _ _ X (lv_sub hl [] rfl)
  · have hm := ifn hc hm
    refine lv_iload_n hx hb dX5_cell_4 rfl (lv_at hl 1 rfl) ?_
    refine lv_aload_n hx hb dX5_cell_5 rfl (lv_at hl 0 rfl) ?_
    refine kslen2 C X dX5_cell_6 ?_
    refine lv_icmp_ge (tgt := 16) hx hb dX5_cell_7 (by decide) (fun hc => ?_) (fun hc => ?_)
    · have hm := ifp hc hm
      refine lv_iconst (v := 0) hx hb dX5_cell_16 (by decide) ?_
      cases sm hm
      exact K _ _ _ X (lv_sub hl [] rfl)
    · have hm := ifn hc hm
      refine lv_aload_n hx hb dX5_cell_10 rfl (lv_at hl 0 rfl) ?_
      refine lv_iload_n hx hb dX5_cell_11 rfl (lv_at hl 1 rfl) ?_
      obtain ⟨hgi, hm⟩ := gd_t hm
      refine ksld2 C X hgi dX5_cell_12 ?_
      refine lv_goto (tgt := 17) hx hb dX5_cell_13 (by decide) ?_
      cases sm hm
      exact K _ _ _ X (lv_sub hl [] rfl)
