-- J6 java/lang/Integer.bitCount(I)I
abbrev rJ6_bitCount_0f7a4 : Room := { frames := 0, cells := 0, slots := 0, locals := 0 }
noncomputable def fJ6_bitCount_0f7a4 (p1 : Int32) : Option (Int32) := lt (p1 - (((p1.toUInt32 >>> ((1 : Int32).toUInt32 &&& Int32.toUInt32 31)).toInt32) &&& 1431655765)) fun x1 => lt ((x1 &&& 858993459) + (((x1.toUInt32 >>> ((2 : Int32).toUInt32 &&& Int32.toUInt32 31)).toInt32) &&& 858993459)) fun x2 => lt ((x2 + ((x2.toUInt32 >>> ((4 : Int32).toUInt32 &&& Int32.toUInt32 31)).toInt32)) &&& 252645135) fun x3 => lt (x3 + ((x3.toUInt32 >>> ((8 : Int32).toUInt32 &&& Int32.toUInt32 31)).toInt32)) fun x4 => lt (x4 + ((x4.toUInt32 >>> ((16 : Int32).toUInt32 &&& Int32.toUInt32 31)).toInt32)) fun x5 => some (x5 &&& 63)
set_option maxRecDepth 100000 in
set_option maxHeartbeats 4000000 in
theorem kJ6_bitCount_0f7a4 (l : Launch) (g : kG) (p1 : Int32) (o1 : Int32) (hm : fJ6_bitCount_0f7a4 p1 = some o1) : KM l yJ6_bitCount_0f7a4 wsJ6_bitCount_0f7a4 rJ6_bitCount_0f7a4 g [.int p1] ([]) (some (.int o1)) ([]) 0 0 := by
  refine KM.of (nL := 1) (by decide) rfl (Nat.le_of_ble_eq_true rfl) ?_
  intro p e s m args below meth c A ls C X hl
  have C : CT g p s m args meth c RJ6 cJ6_bitCount_0f7a4 1 (some .int) wsJ6_bitCount_0f7a4 A := C
  have hx := C.1
  have hb := C.2.1
  have hl : lv_has ls 1 [(0, .int p1)] := hl
  rw [fJ6_bitCount_0f7a4] at hm
  refine lv_iload_n hx hb dJ6_bitCount_0f7a4_0 rfl (lv_at hl 0 rfl) ?_
  refine lv_iload_n hx hb dJ6_bitCount_0f7a4_1 rfl (lv_at hl 0 rfl) ?_
  refine lv_iconst (v := 1) hx hb dJ6_bitCount_0f7a4_2 (by decide) ?_
  refine lv_iushr (v := (p1.toUInt32 >>> ((1 : Int32).toUInt32 &&& Int32.toUInt32 31)).toInt32) hx hb dJ6_bitCount_0f7a4_3 rfl ?_
  refine lv_ldcw (v := 1431655765) hx hb C.2.2.2.2.1 (C.2.2.2.2.2.1 (.constant RJ6 265 1431655765) (by decide +kernel)) dJ6_bitCount_0f7a4_4 ?_
  refine lv_iand hx hb dJ6_bitCount_0f7a4_7 ?_
  refine lv_isub hx hb dJ6_bitCount_0f7a4_8 ?_
  refine lv_topi (fun x1 ex => ?_)
  have hm := lt_t ex hm
  clear ex
  refine lv_istore_n (lv' := [(0, .int x1)]) hx hb dJ6_bitCount_0f7a4_9 rfl hl (by decide) rfl (fun ls hl => ?_)
  refine lv_iload_n hx hb dJ6_bitCount_0f7a4_10 rfl (lv_at hl 0 rfl) ?_
  refine lv_ldcw (v := 858993459) hx hb C.2.2.2.2.1 (C.2.2.2.2.2.1 (.constant RJ6 266 858993459) (by decide +kernel)) dJ6_bitCount_0f7a4_11 ?_
  refine lv_iand hx hb dJ6_bitCount_0f7a4_14 ?_
  refine lv_iload_n hx hb dJ6_bitCount_0f7a4_15 rfl (lv_at hl 0 rfl) ?_
  refine lv_iconst (v := 2) hx hb dJ6_bitCount_0f7a4_16 (by decide) ?_
  refine lv_iushr (v := (x1.toUInt32 >>> ((2 : Int32).toUInt32 &&& Int32.toUInt32 31)).toInt32) hx hb dJ6_bitCount_0f7a4_17 rfl ?_
  refine lv_ldcw (v := 858993459) hx hb C.2.2.2.2.1 (C.2.2.2.2.2.1 (.constant RJ6 266 858993459) (by decide +kernel)) dJ6_bitCount_0f7a4_18 ?_
  refine lv_iand hx hb dJ6_bitCount_0f7a4_21 ?_
  refine lv_iadd hx hb dJ6_bitCount_0f7a4_22 ?_
  refine lv_topi (fun x2 ex => ?_)
  have hm := lt_t ex hm
  clear ex
  refine lv_istore_n (lv' := [(0, .int x2)]) hx hb dJ6_bitCount_0f7a4_23 rfl hl (by decide) rfl (fun ls hl => ?_)
  refine lv_iload_n hx hb dJ6_bitCount_0f7a4_24 rfl (lv_at hl 0 rfl) ?_
  refine lv_iload_n hx hb dJ6_bitCount_0f7a4_25 rfl (lv_at hl 0 rfl) ?_
  refine lv_iconst (v := 4) hx hb dJ6_bitCount_0f7a4_26 (by decide) ?_
  refine lv_iushr (v := (x2.toUInt32 >>> ((4 : Int32).toUInt32 &&& Int32.toUInt32 31)).toInt32) hx hb dJ6_bitCount_0f7a4_27 rfl ?_
  refine lv_iadd hx hb dJ6_bitCount_0f7a4_28 ?_
  refine lv_ldcw (v := 252645135) hx hb C.2.2.2.2.1 (C.2.2.2.2.2.1 (.constant RJ6 267 252645135) (by decide +kernel)) dJ6_bitCount_0f7a4_29 ?_
  refine lv_iand hx hb dJ6_bitCount_0f7a4_32 ?_
  refine lv_topi (fun x3 ex => ?_)
  have hm := lt_t ex hm
  clear ex
  refine lv_istore_n (lv' := [(0, .int x3)]) hx hb dJ6_bitCount_0f7a4_33 rfl hl (by decide) rfl (fun ls hl => ?_)
  refine lv_iload_n hx hb dJ6_bitCount_0f7a4_34 rfl (lv_at hl 0 rfl) ?_
  refine lv_iload_n hx hb dJ6_bitCount_0f7a4_35 rfl (lv_at hl 0 rfl) ?_
  refine lv_bipush (v := 8) hx hb dJ6_bitCount_0f7a4_36 (by decide) ?_
  refine lv_iushr (v := (x3.toUInt32 >>> ((8 : Int32).toUInt32 &&& Int32.toUInt32 31)).toInt32) hx hb dJ6_bitCount_0f7a4_38 rfl ?_
  refine lv_iadd hx hb dJ6_bitCount_0f7a4_39 ?_
  refine lv_topi (fun x4 ex => ?_)
  have hm := lt_t ex hm
  clear ex
  refine lv_istore_n (lv' := [(0, .int x4)]) hx hb dJ6_bitCount_0f7a4_40 rfl hl (by decide) rfl (fun ls hl => ?_)
  refine lv_iload_n hx hb dJ6_bitCount_0f7a4_41 rfl (lv_at hl 0 rfl) ?_
  refine lv_iload_n hx hb dJ6_bitCount_0f7a4_42 rfl (lv_at hl 0 rfl) ?_
  refine lv_bipush (v := 16) hx hb dJ6_bitCount_0f7a4_43 (by decide) ?_
  refine lv_iushr (v := (x4.toUInt32 >>> ((16 : Int32).toUInt32 &&& Int32.toUInt32 31)).toInt32) hx hb dJ6_bitCount_0f7a4_45 rfl ?_
  refine lv_iadd hx hb dJ6_bitCount_0f7a4_46 ?_
  refine lv_topi (fun x5 ex => ?_)
  have hm := lt_t ex hm
  clear ex
  refine lv_istore_n (lv' := [(0, .int x5)]) hx hb dJ6_bitCount_0f7a4_47 rfl hl (by decide) rfl (fun ls hl => ?_)
  refine lv_iload_n hx hb dJ6_bitCount_0f7a4_48 rfl (lv_at hl 0 rfl) ?_
  refine lv_bipush (v := 63) hx hb dJ6_bitCount_0f7a4_49 (by decide) ?_
  refine lv_iand hx hb dJ6_bitCount_0f7a4_51 ?_
  cases sm hm
  exact kiret C X dJ6_bitCount_0f7a4_52
-- X5 BrushStrokes.cell([II)I
abbrev rX5_cell : Room := { frames := 0, cells := 0, slots := 0, locals := 0 }
noncomputable def fX5_cell (p1 : Int32) (na : Nat) (u : (Nat → Int32)) : Option (Int32) := ((if p1 < 0 then (some 0) else (if (Int32.ofNat na) ≤ p1 then (some 0) else (gd (inb p1 na) (some (u p1.toNatClampNeg))))) : Option (Int32)).bind fun v1 => some v1
set_option maxRecDepth 100000 in
set_option maxHeartbeats 4000000 in
theorem kX5_cell (l : Launch) (g : kG) (a : Nat → Nat) (p1 : Int32) (na : Nat) (u : (Nat → Int32)) (o1 : Int32) (hm : fX5_cell p1 na u = some o1) : KM l yX5_cell wsX5_cell rX5_cell g [.ref (a 0), .int p1] (wR g a na u) (some (.int o1)) (wR g a na u) 0 0 := by
  refine KM.of (nL := 2) (by decide) rfl (Nat.le_of_ble_eq_true rfl) ?_
  intro p e s m args below meth c A ls C X hl
  have C : CT g p s m args meth c RX5 cX5_cell 2 (some .int) wsX5_cell A := C
  have hx := C.1
  have hb := C.2.1
  have hl : lv_has ls 2 [(0, .ref (a 0)), (1, .int p1)] := hl
  rw [fX5_cell] at hm
  refine lv_iload_n hx hb dX5_cell_0 rfl (lv_at hl 1 rfl) ?_
  obtain ⟨v1, hE, hm⟩ := bnd hm
  have K : ∀ (H : Heap) (locs : List Loc) (ls : Array Slot), ST g A s H locs (wR g a na u) → lv_has ls 2 [] → W p l e rX5_cell s m args below meth c H locs 0 0 (kEnd g below args s (some (.int o1)) (wR g a na u) A 0 0) (F0 m 17 ls [.int v1]) := by
    intro H locs ls X hl
    clear hE
    cases sm hm
    exact kiret C X dX5_cell_17
  clear hm
  have hm := hE
  clear hE
  refine lv_if_lt (tgt := 16) hx hb dX5_cell_1 (by decide) (fun hc => ?_) (fun hc => ?_)
  · have hm := ifp hc hm
    refine lv_iconst (v := 0) hx hb dX5_cell_16 (by decide) ?_
    cases sm hm
    exact K _ _ _ X (lv_sub hl [] rfl)
  · have hm := ifn hc hm
    refine lv_iload_n hx hb dX5_cell_4 rfl (lv_at hl 1 rfl) ?_
    refine lv_aload_n hx hb dX5_cell_5 rfl (lv_at hl 0 rfl) ?_
    refine kalen C X 0 rfl (v := Int32.ofNat na) rfl dX5_cell_6 ?_
    refine lv_icmp_ge (tgt := 16) hx hb dX5_cell_7 (by decide) (fun hc => ?_) (fun hc => ?_)
    · have hm := ifp hc hm
      refine lv_iconst (v := 0) hx hb dX5_cell_16 (by decide) ?_
      cases sm hm
      exact K _ _ _ X (lv_sub hl [] rfl)
    · have hm := ifn hc hm
      refine lv_aload_n hx hb dX5_cell_10 rfl (lv_at hl 0 rfl) ?_
      refine lv_iload_n hx hb dX5_cell_11 rfl (lv_at hl 1 rfl) ?_
      obtain ⟨hgi, hm⟩ := gd_t hm
      refine kiald C X 0 rfl hgi dX5_cell_12 ?_
      refine lv_goto (tgt := 17) hx hb dX5_cell_13 (by decide) ?_
      cases sm hm
      exact K _ _ _ X (lv_sub hl [] rfl)
-- X5 BrushStrokes.putCell([III)V
abbrev rX5_putCell : Room := { frames := 0, cells := 0, slots := 0, locals := 0 }
noncomputable def fX5_putCell (p1 : Int32) (p2 : Int32) (na : Nat) (u : (Nat → Int32)) : Option ((Nat → Int32)) := ((if p1 < 0 then (some u) else (if (Int32.ofNat na) ≤ p1 then (some u) else (gd (inb p1 na) (lt (upd u p1.toNatClampNeg p2) fun u3 => some u3)))) : Option ((Nat → Int32))).bind fun u2 => some u2
set_option maxRecDepth 100000 in
set_option maxHeartbeats 4000000 in
theorem kX5_putCell (l : Launch) (g : kG) (a : Nat → Nat) (p1 : Int32) (p2 : Int32) (na : Nat) (u : (Nat → Int32)) (o1 : (Nat → Int32)) (hm : fX5_putCell p1 p2 na u = some o1) : KM l yX5_putCell wsX5_putCell rX5_putCell g [.ref (a 0), .int p1, .int p2] (wR g a na u) none (wR g a na o1) 0 0 := by
  refine KM.of (nL := 3) (by decide) rfl (Nat.le_of_ble_eq_true rfl) ?_
  intro p e s m args below meth c A ls C X hl
  have C : CT g p s m args meth c RX5 cX5_putCell 3 none wsX5_putCell A := C
  have hx := C.1
  have hb := C.2.1
  have hl : lv_has ls 3 [(0, .ref (a 0)), (1, .int p1), (2, .int p2)] := hl
  rw [fX5_putCell] at hm
  refine lv_iload_n hx hb dX5_putCell_0 rfl (lv_at hl 1 rfl) ?_
  obtain ⟨u2, hE, hm⟩ := bnd hm
  have K : ∀ (H : Heap) (locs : List Loc) (ls : Array Slot), ST g A s H locs (wR g a na u2) → lv_has ls 3 [] → W p l e rX5_putCell s m args below meth c H locs 0 0 (kEnd g below args s none (wR g a na o1) A 0 0) (F0 m 14 ls []) := by
    intro H locs ls X hl
    clear hE
    cases sm hm
    exact kvret C X dX5_putCell_14
  clear hm
  have hm := hE
  clear hE
  refine lv_if_lt (tgt := 14) hx hb dX5_putCell_1 (by decide) (fun hc => ?_) (fun hc => ?_)
  · have hm := ifp hc hm
    cases sm hm
    exact K _ _ _ X (lv_sub hl [] rfl)
  · have hm := ifn hc hm
    refine lv_iload_n hx hb dX5_putCell_4 rfl (lv_at hl 1 rfl) ?_
    refine lv_aload_n hx hb dX5_putCell_5 rfl (lv_at hl 0 rfl) ?_
    refine kalen C X 0 rfl (v := Int32.ofNat na) rfl dX5_putCell_6 ?_
    refine lv_icmp_ge (tgt := 14) hx hb dX5_putCell_7 (by decide) (fun hc => ?_) (fun hc => ?_)
    · have hm := ifp hc hm
      cases sm hm
      exact K _ _ _ X (lv_sub hl [] rfl)
    · have hm := ifn hc hm
      refine lv_aload_n hx hb dX5_putCell_10 rfl (lv_at hl 0 rfl) ?_
      refine lv_iload_n hx hb dX5_putCell_11 rfl (lv_at hl 1 rfl) ?_
      refine lv_iload_n hx hb dX5_putCell_12 rfl (lv_at hl 2 rfl) ?_
      obtain ⟨hgi, hm⟩ := gd_t hm
      obtain ⟨u3, eu⟩ : ∃ z, z = upd u p1.toNatClampNeg p2 := ⟨_, rfl⟩
      have hm := lt_t eu hm
      refine kiast C X 0 rfl hgi (w2 := wR g a na u3) (by subst eu; rfl) dX5_putCell_13 (fun H locs X => ?_)
      clear eu
      cases sm hm
      exact K _ _ _ X (lv_sub hl [] rfl)
-- X5 BrushStrokes.hasBit(II)Z
abbrev rX5_hasBit : Room := { frames := 0, cells := 0, slots := 0, locals := 0 }
noncomputable def fX5_hasBit (p1 : Int32) (p2 : Int32) : Option (Int32) := ((if p2 < 0 then (some 0) else (if 24 ≤ p2 then (some 0) else (if ((p1 >>> (p2 &&& 31)) &&& 1) = 0 then (some 0) else (some 1)))) : Option (Int32)).bind fun v1 => gd (isb v1) (some v1)
set_option maxRecDepth 100000 in
set_option maxHeartbeats 4000000 in
theorem kX5_hasBit (l : Launch) (g : kG) (p1 : Int32) (p2 : Int32) (o1 : Int32) (hm : fX5_hasBit p1 p2 = some o1) : KM l yX5_hasBit wsX5_hasBit rX5_hasBit g [.int p1, .int p2] ([]) (some (.int o1)) ([]) 0 0 := by
  refine KM.of (nL := 2) (by decide) rfl (Nat.le_of_ble_eq_true rfl) ?_
  intro p e s m args below meth c A ls C X hl
  have C : CT g p s m args meth c RX5 cX5_hasBit 2 (some .boolean) wsX5_hasBit A := C
  have hx := C.1
  have hb := C.2.1
  have hl : lv_has ls 2 [(0, .int p1), (1, .int p2)] := hl
  rw [fX5_hasBit] at hm
  refine lv_iload_n hx hb dX5_hasBit_0 rfl (lv_at hl 1 rfl) ?_
  obtain ⟨v1, hE, hm⟩ := bnd hm
  have K : ∀ (H : Heap) (locs : List Loc) (ls : Array Slot), ST g A s H locs ([]) → lv_has ls 2 [] → W p l e rX5_hasBit s m args below meth c H locs 0 0 (kEnd g below args s (some (.int o1)) ([]) A 0 0) (F0 m 23 ls [.int v1]) := by
    intro H locs ls X hl
    clear hE
    obtain ⟨hgb, hm⟩ := gd_t hm
    cases sm hm
    exact kzret (isb_n hgb) C X dX5_hasBit_23
  clear hm
  have hm := hE
  clear hE
  refine lv_if_lt (tgt := 22) hx hb dX5_hasBit_1 (by decide) (fun hc => ?_) (fun hc => ?_)
  · have hm := ifp hc hm
    refine lv_iconst (v := 0) hx hb dX5_hasBit_22 (by decide) ?_
    cases sm hm
    exact K _ _ _ X (lv_sub hl [] rfl)
  · have hm := ifn hc hm
    refine lv_iload_n hx hb dX5_hasBit_4 rfl (lv_at hl 1 rfl) ?_
    refine lv_bipush (v := 24) hx hb dX5_hasBit_5 (by decide) ?_
    refine lv_icmp_ge (tgt := 22) hx hb dX5_hasBit_7 (by decide) (fun hc => ?_) (fun hc => ?_)
    · have hm := ifp hc hm
      refine lv_iconst (v := 0) hx hb dX5_hasBit_22 (by decide) ?_
      cases sm hm
      exact K _ _ _ X (lv_sub hl [] rfl)
    · have hm := ifn hc hm
      refine lv_iload_n hx hb dX5_hasBit_10 rfl (lv_at hl 0 rfl) ?_
      refine lv_iload_n hx hb dX5_hasBit_11 rfl (lv_at hl 1 rfl) ?_
      refine lv_ishr hx hb dX5_hasBit_12 ?_
      refine lv_iconst (v := 1) hx hb dX5_hasBit_13 (by decide) ?_
      refine lv_iand hx hb dX5_hasBit_14 ?_
      refine lv_if_eq (tgt := 22) hx hb dX5_hasBit_15 (by decide) (fun hc => ?_) (fun hc => ?_)
      · have hm := ifp hc hm
        refine lv_iconst (v := 0) hx hb dX5_hasBit_22 (by decide) ?_
        cases sm hm
        exact K _ _ _ X (lv_sub hl [] rfl)
      · have hm := ifn hc hm
        refine lv_iconst (v := 1) hx hb dX5_hasBit_18 (by decide) ?_
        refine lv_goto (tgt := 23) hx hb dX5_hasBit_19 (by decide) ?_
        cases sm hm
        exact K _ _ _ X (lv_sub hl [] rfl)
-- X5 BrushStrokes.root(J)I
abbrev rX5_root : Room := { frames := 0, cells := 0, slots := 0, locals := 0 }
noncomputable def bX5_root_6 (c1 : Int64) : Int32 × Int32 → Option ((Int32 × Int32) ⊕ (Int32))
  | (x2, x3) => if x3 ≤ 0 then (some (.inr x2)) else (((if c1 < (((x2 + x3).toInt64) * ((x2 + x3).toInt64)) then (some x2) else (some (x2 + x3))) : Option (Int32)).bind fun v5 => some (.inl (v5, x3 >>> (1 &&& 31))))
noncomputable def lX5_root_6 (c1 : Int64) (x2 : Int32) (x3 : Int32) : Option (Int32) := lp (bX5_root_6 c1) (x2, x3)
theorem lX5_root_6_eq (c1 : Int64) (x2 : Int32) (x3 : Int32) : lX5_root_6 c1 x2 x3 = (if x3 ≤ 0 then (some (.inr x2)) else (((if c1 < (((x2 + x3).toInt64) * ((x2 + x3).toInt64)) then (some x2) else (some (x2 + x3))) : Option (Int32)).bind fun v5 => some (.inl (v5, x3 >>> (1 &&& 31))))).bind fun r => Sum.elim (fun z => lX5_root_6 c1 z.1 z.2) (fun r => some r) r := lp_eq (bX5_root_6 c1) (x2, x3)
set_option maxRecDepth 100000 in
set_option maxHeartbeats 4000000 in
theorem tX5_root_6 {p : Program} {l : Launch} {e : Env} {s : State} {m : MethodId} {args : Array Value} {below : List Frame} {meth : Method} {c : Code} {g : kG} {A : Nat → Prop} {Q : State → Prop} (C : CT g p s m args meth c RX5 cX5_root 6 (some .int) wsX5_root A) (c1 : Int64) (y4 : Int32) (kk : ∀ (H : Heap) (locs : List Loc) (ls : Array Slot), ST g A s H locs ([]) → lv_has ls 6 [(2, .int y4)] → W p l e rX5_root s m args below meth c H locs 0 0 Q (F0 m 37 ls [])) : ∀ (n : Nat) (x2 : Int32) (x3 : Int32), whl (bX5_root_6 c1) n (x2, x3) = some y4 → ∀ (H : Heap) (locs : List Loc) (ls : Array Slot), ST g A s H locs ([]) → lv_has ls 6 [(0, .long c1), (2, .int x2), (3, .int x3)] → W p l e rX5_root s m args below meth c H locs 0 0 Q (F0 m 6 ls []) := by
  have hx := C.1
  have hb := C.2.1
  intro n
  induction n with
  | zero =>
    intro x2 x3 hm
    cases hm
  | succ n ih =>
    intro x2 x3 hm H locs ls X hl
    rw [whl] at hm
    obtain ⟨q, hq, hm2⟩ := bnd hm
    clear hm
    have hm := hq
    clear hq
    rw [bX5_root_6] at hm
    refine lv_iload_n hx hb dX5_root_6 rfl (lv_at hl 2 rfl) ?_
    refine lv_if_le (tgt := 37) hx hb dX5_root_7 (by decide) (fun hc => ?_) (fun hc => ?_)
    · have hm := ifp hc hm
      cases sm hm
      cases sm hm2
      exact kk _ _ _ X (lv_sub hl [1] rfl)
    · have hm := ifn hc hm
      refine lv_iload_n hx hb dX5_root_10 rfl (lv_at hl 1 rfl) ?_
      refine lv_iload_n hx hb dX5_root_11 rfl (lv_at hl 2 rfl) ?_
      refine lv_iadd hx hb dX5_root_12 ?_
      refine lv_i2l (v := (x2 + x3).toInt64) hx hb dX5_root_13 rfl ?_
      refine lv_lstore (lv' := [(4, .long ((x2 + x3).toInt64)), (0, .long c1), (2, .int x2), (3, .int x3)]) hx hb dX5_root_14 hl (by decide) rfl (fun ls hl => ?_)
      refine lv_lload hx hb dX5_root_16 (lv_at hl 0 rfl) ?_
      refine lv_lload hx hb dX5_root_18 (lv_at hl 0 rfl) ?_
      refine lv_lmul hx hb dX5_root_20 ?_
      refine lv_lload_n hx hb dX5_root_21 rfl (lv_at hl 1 rfl) ?_
      obtain ⟨v5, hE, hm⟩ := bnd hm
      have K : ∀ (H : Heap) (locs : List Loc) (ls : Array Slot), ST g A s H locs ([]) → lv_has ls 6 [(0, .long c1), (2, .int v5), (3, .int x3)] → W p l e rX5_root s m args below meth c H locs 0 0 Q (F0 m 30 ls []) := by
        intro H locs ls X hl
        clear hE
        refine lv_iload_n hx hb dX5_root_30 rfl (lv_at hl 2 rfl) ?_
        refine lv_iconst (v := 1) hx hb dX5_root_31 (by decide) ?_
        refine lv_ishr hx hb dX5_root_32 ?_
        refine lv_istore_n (lv' := [(3, .int (x3 >>> (1 &&& 31))), (0, .long c1), (2, .int v5)]) hx hb dX5_root_33 rfl hl (by decide) rfl (fun ls hl => ?_)
        refine lv_goto (tgt := 6) hx hb dX5_root_34 (by decide) ?_
        cases sm hm
        exact ih _ _ hm2 _ _ _ X (lv_sub hl [1, 2, 0] rfl)
      clear hm
      have hm := hE
      clear hE
      refine klcmp_gt (tgt := 30) hx hb dX5_root_22 dX5_root_23 (by decide) (fun hc => ?_) (fun hc => ?_)
      · have hm := ifp hc hm
        cases sm hm
        exact K _ _ _ X (lv_sub hl [1, 2, 3] rfl)
      · have hm := ifn hc hm
        refine lv_iload_n hx hb dX5_root_26 rfl (lv_at hl 2 rfl) ?_
        refine lv_iload_n hx hb dX5_root_27 rfl (lv_at hl 3 rfl) ?_
        refine lv_iadd hx hb dX5_root_28 ?_
        refine lv_istore_n (lv' := [(2, .int (x2 + x3)), (4, .long ((x2 + x3).toInt64)), (0, .long c1), (3, .int x3)]) hx hb dX5_root_29 rfl hl (by decide) rfl (fun ls hl => ?_)
        cases sm hm
        exact K _ _ _ X (lv_sub hl [2, 0, 3] rfl)
noncomputable def fX5_root (p1 : Int64) : Option (Int32) := (lX5_root_6 p1 0 16384).bind fun y6 => some y6
set_option maxRecDepth 100000 in
set_option maxHeartbeats 4000000 in
theorem kX5_root (l : Launch) (g : kG) (p1 : Int64) (o1 : Int32) (hm : fX5_root p1 = some o1) : KM l yX5_root wsX5_root rX5_root g [.long p1] ([]) (some (.int o1)) ([]) 0 0 := by
  refine KM.of (nL := 6) (by decide) rfl (Nat.le_of_ble_eq_true rfl) ?_
  intro p e s m args below meth c A ls C X hl
  have C : CT g p s m args meth c RX5 cX5_root 6 (some .int) wsX5_root A := C
  have hx := C.1
  have hb := C.2.1
  have hl : lv_has ls 6 [(0, .long p1)] := hl
  rw [fX5_root] at hm
  refine lv_iconst (v := 0) hx hb dX5_root_0 (by decide) ?_
  refine lv_istore_n (lv' := [(2, .int 0), (0, .long p1)]) hx hb dX5_root_1 rfl hl (by decide) rfl (fun ls hl => ?_)
  refine lv_sipush (v := 16384) hx hb dX5_root_2 (by decide) ?_
  refine lv_istore_n (lv' := [(3, .int 16384), (2, .int 0), (0, .long p1)]) hx hb dX5_root_5 rfl hl (by decide) rfl (fun ls hl => ?_)
  obtain ⟨y6, hL, hm⟩ := bnd hm
  obtain ⟨nn, hn⟩ := lp_run hL
  refine tX5_root_6 C p1 y6 (fun H locs ls X hl => ?_) nn _ _ hn _ _ _ X (lv_sub hl [2, 1, 0] rfl)
  clear hL hn
  refine lv_iload_n hx hb dX5_root_37 rfl (lv_at hl 0 rfl) ?_
  cases sm hm
  exact kiret C X dX5_root_38
