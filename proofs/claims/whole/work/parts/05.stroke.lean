-- J6 java/lang/Integer.bitCount(I)I
abbrev rJ6_bitCount_0f7a4 : Room := { frames := 0, cells := 0, slots := 0, locals := 0 }
noncomputable def fJ6_bitCount_0f7a4 (p1 : Int32) : Option (Int32) := lt (p1 - (((p1.toUInt32 >>> ((1 : Int32).toUInt32 &&& Int32.toUInt32 31)).toInt32) &&& 1431655765)) fun x1 => lt ((x1 &&& 858993459) + (((x1.toUInt32 >>> ((2 : Int32).toUInt32 &&& Int32.toUInt32 31)).toInt32) &&& 858993459)) fun x2 => lt ((x2 + ((x2.toUInt32 >>> ((4 : Int32).toUInt32 &&& Int32.toUInt32 31)).toInt32)) &&& 252645135) fun x3 => lt (x3 + ((x3.toUInt32 >>> ((8 : Int32).toUInt32 &&& Int32.toUInt32 31)).toInt32)) fun x4 => lt (x4 + ((x4.toUInt32 >>> ((16 : Int32).toUInt32 &&& Int32.toUInt32 31)).toInt32)) fun x5 => some (x5 &&& 63)
set_option maxRecDepth 100000 in
set_option maxHeartbeats 4000000 in
theorem kJ6_bitCount_0f7a4 (l : Launch) (g : kG) (p1 : Int32) (o1 : Int32) (hm : fJ6_bitCount_0f7a4 p1 = some o1) : KM l yJ6_bitCount_0f7a4 wsJ6_bitCount_0f7a4 rJ6_bitCount_0f7a4 g [.int p1] ([]) (some (.int o1)) ([]) 0 0 := by
  refine KM.of (nL := 1) (by decide) rfl (Nat.le_of_ble_eq_true rfl) ?_
  intro p e s m args below meth c A ls C X hl
  have C : CT g p s m args meth c RJ6 cJ6_bitCount_0f7a4 1 (some .int) wsJ6_bitCount_0f7a4 A := C
  have hx := C.1
  have hb := C.2.1
  have hl : lv_has ls 1 [(0, .int p1)] := hl
  rw [fJ6_bitCount_0f7a4] at hm
  refine lv_iload_n hx hb dJ6_bitCount_0f7a4_0 rfl (lv_at hl 0 rfl) ?_
  refine lv_iload_n hx hb dJ6_bitCount_0f7a4_1 rfl (lv_at hl 0 rfl) ?_
  refine lv_iconst (v := 1) hx hb dJ6_bitCount_0f7a4_2 (by decide) ?_
  refine lv_iushr (v := (p1.toUInt32 >>> ((1 : Int32).toUInt32 &&& Int32.toUInt32 31)).toInt32) hx hb dJ6_bitCount_0f7a4_3 rfl ?_
  refine lv_ldcw (v := 1431655765) hx hb C.2.2.2.2.1 (C.2.2.2.2.2.1 (.constant RJ6 265 1431655765) (by decide +kernel)) dJ6_bitCount_0f7a4_4 ?_
  refine lv_iand hx hb dJ6_bitCount_0f7a4_7 ?_
  refine lv_isub hx hb dJ6_bitCount_0f7a4_8 ?_
  refine lv_topi (fun x1 ex => ?_)
  have hm := lt_t ex hm
  clear ex
  refine lv_istore_n (lv' := [(0, .int x1)]) hx hb dJ6_bitCount_0f7a4_9 rfl hl (by decide) rfl (fun ls hl => ?_)
  refine lv_iload_n hx hb dJ6_bitCount_0f7a4_10 rfl (lv_at hl 0 rfl) ?_
  refine lv_ldcw (v := 858993459) hx hb C.2.2.2.2.1 (C.2.2.2.2.2.1 (.constant RJ6 266 858993459) (by decide +kernel)) dJ6_bitCount_0f7a4_11 ?_
  refine lv_iand hx hb dJ6_bitCount_0f7a4_14 ?_
  refine lv_iload_n hx hb dJ6_bitCount_0f7a4_15 rfl (lv_at hl 0 rfl) ?_
  refine lv_iconst (v := 2) hx hb dJ6_bitCount_0f7a4_16 (by decide) ?_
  refine lv_iushr (v := (x1.toUInt32 >>> ((2 : Int32).toUInt32 &&& Int32.toUInt32 31)).toInt32) hx hb dJ6_bitCount_0f7a4_17 rfl ?_
  refine lv_ldcw (v := 858993459) hx hb C.2.2.2.2.1 (C.2.2.2.2.2.1 (.constant RJ6 266 858993459) (by decide +kernel)) dJ6_bitCount_0f7a4_18 ?_
  refine lv_iand hx hb dJ6_bitCount_0f7a4_21 ?_
  refine lv_iadd hx hb dJ6_bitCount_0f7a4_22 ?_
  refine lv_topi (fun x2 ex => ?_)
  have hm := lt_t ex hm
  clear ex
  refine lv_istore_n (lv' := [(0, .int x2)]) hx hb dJ6_bitCount_0f7a4_23 rfl hl (by decide) rfl (fun ls hl => ?_)
  refine lv_iload_n hx hb dJ6_bitCount_0f7a4_24 rfl (lv_at hl 0 rfl) ?_
  refine lv_iload_n hx hb dJ6_bitCount_0f7a4_25 rfl (lv_at hl 0 rfl) ?_
  refine lv_iconst (v := 4) hx hb dJ6_bitCount_0f7a4_26 (by decide) ?_
  refine lv_iushr (v := (x2.toUInt32 >>> ((4 : Int32).toUInt32 &&& Int32.toUInt32 31)).toInt32) hx hb dJ6_bitCount_0f7a4_27 rfl ?_
  refine lv_iadd hx hb dJ6_bitCount_0f7a4_28 ?_
  refine lv_ldcw (v := 252645135) hx hb C.2.2.2.2.1 (C.2.2.2.2.2.1 (.constant RJ6 267 252645135) (by decide +kernel)) dJ6_bitCount_0f7a4_29 ?_
  refine lv_iand hx hb dJ6_bitCount_0f7a4_32 ?_
  refine lv_topi (fun x3 ex => ?_)
  have hm := lt_t ex hm
  clear ex
  refine lv_istore_n (lv' := [(0, .int x3)]) hx hb dJ6_bitCount_0f7a4_33 rfl hl (by decide) rfl (fun ls hl => ?_)
  refine lv_iload_n hx hb dJ6_bitCount_0f7a4_34 rfl (lv_at hl 0 rfl) ?_
  refine lv_iload_n hx hb dJ6_bitCount_0f7a4_35 rfl (lv_at hl 0 rfl) ?_
  refine lv_bipush (v := 8) hx hb dJ6_bitCount_0f7a4_36 (by decide) ?_
  refine lv_iushr (v := (x3.toUInt32 >>> ((8 : Int32).toUInt32 &&& Int32.toUInt32 31)).toInt32) hx hb dJ6_bitCount_0f7a4_38 rfl ?_
  refine lv_iadd hx hb dJ6_bitCount_0f7a4_39 ?_
  refine lv_topi (fun x4 ex => ?_)
  have hm := lt_t ex hm
  clear ex
  refine lv_istore_n (lv' := [(0, .int x4)]) hx hb dJ6_bitCount_0f7a4_40 rfl hl (by decide) rfl (fun ls hl => ?_)
  refine lv_iload_n hx hb dJ6_bitCount_0f7a4_41 rfl (lv_at hl 0 rfl) ?_
  refine lv_iload_n hx hb dJ6_bitCount_0f7a4_42 rfl (lv_at hl 0 rfl) ?_
  refine lv_bipush (v := 16) hx hb dJ6_bitCount_0f7a4_43 (by decide) ?_
  refine lv_iushr (v := (x4.toUInt32 >>> ((16 : Int32).toUInt32 &&& Int32.toUInt32 31)).toInt32) hx hb dJ6_bitCount_0f7a4_45 rfl ?_
  refine lv_iadd hx hb dJ6_bitCount_0f7a4_46 ?_
  refine lv_topi (fun x5 ex => ?_)
  have hm := lt_t ex hm
  clear ex
  refine lv_istore_n (lv' := [(0, .int x5)]) hx hb dJ6_bitCount_0f7a4_47 rfl hl (by decide) rfl (fun ls hl => ?_)
  refine lv_iload_n hx hb dJ6_bitCount_0f7a4_48 rfl (lv_at hl 0 rfl) ?_
  refine lv_bipush (v := 63) hx hb dJ6_bitCount_0f7a4_49 (by decide) ?_
  refine lv_iand hx hb dJ6_bitCount_0f7a4_51 ?_
  cases sm hm
  exact kiret C X dJ6_bitCount_0f7a4_52
-- X5 BrushStrokes.cell([II)I
abbrev rX5_cell : Room := { frames := 0, cells := 0, slots := 0, locals := 0 }
noncomputable def fX5_cell (p1 : Int32) (na : Nat) (u : (Nat → Int32)) : Option (Int32) := (if p1 < 0 then (some 0) else (if (Int32.ofNat na) ≤ p1 then (some 0) else (gd (inb p1 na) (some (u p1.toNatClampNeg))))).bind fun v1 => some v1
set_option maxRecDepth 100000 in
set_option maxHeartbeats 4000000 in
theorem kX5_cell (l : Launch) (g : kG) (a : Nat → Nat) (p1 : Int32) (na : Nat) (u : (Nat → Int32)) (o1 : Int32) (hm : fX5_cell p1 na u = some o1) : KM l yX5_cell wsX5_cell rX5_cell g [.ref (a 0), .int p1] (wR g a na u) (some (.int o1)) (wR g a na u) 0 0 := by
  refine KM.of (nL := 2) (by decide) rfl (Nat.le_of_ble_eq_true rfl) ?_
  intro p e s m args below meth c A ls C X hl
  have C : CT g p s m args meth c RX5 cX5_cell 2 (some .int) wsX5_cell A := C
  have hx := C.1
  have hb := C.2.1
  have hl : lv_has ls 2 [(0, .ref (a 0)), (1, .int p1)] := hl
  rw [fX5_cell] at hm
  refine lv_iload_n hx hb dX5_cell_0 rfl (lv_at hl 1 rfl) ?_
  obtain ⟨v1, hE, hm⟩ := bnd hm
  have K : ∀ (H : Heap) (locs : List Loc) (ls : Array Slot), ST g A s H locs (wR g a na u) → lv_has ls 2 [] → W p l e rX5_cell s m args below meth c H locs 0 0 (kEnd g below args s (some (.int o1)) (wR g a na u) A 0 0) (F0 m 17 ls [.int v1]) := by
    intro H locs ls X hl
    clear hE
    cases sm hm
    exact kiret C X dX5_cell_17
  clear hm
  have hm := hE
  clear hE
  refine lv_if_lt (tgt := 16) hx hb dX5_cell_1 (by decide) (fun hc => ?_) (fun hc => ?_)
  · have hm := ifp hc hm
    refine lv_iconst (v := 0) hx hb dX5_cell_16 (by decide) ?_
    cases sm hm
    exact K _ _ _ X (lv_sub hl [] rfl)
  · have hm := ifn hc hm
    refine lv_iload_n hx hb dX5_cell_4 rfl (lv_at hl 1 rfl) ?_
    refine lv_aload_n hx hb dX5_cell_5 rfl (lv_at hl 0 rfl) ?_
    refine kalen C X 0 rfl (v := Int32.ofNat na) rfl dX5_cell_6 ?_
    refine lv_icmp_ge (tgt := 16) hx hb dX5_cell_7 (by decide) (fun hc => ?_) (fun hc => ?_)
    · have hm := ifp hc hm
      refine lv_iconst (v := 0) hx hb dX5_cell_16 (by decide) ?_
      cases sm hm
      exact K _ _ _ X (lv_sub hl [] rfl)
    · have hm := ifn hc hm
      refine lv_aload_n hx hb dX5_cell_10 rfl (lv_at hl 0 rfl) ?_
      refine lv_iload_n hx hb dX5_cell_11 rfl (lv_at hl 1 rfl) ?_
      obtain ⟨hgi, hm⟩ := gd_t hm
      refine kiald C X 0 rfl hgi dX5_cell_12 ?_
      refine lv_goto (tgt := 17) hx hb dX5_cell_13 (by decide) ?_
      cases sm hm
      exact K _ _ _ X (lv_sub hl [] rfl)
-- X5 BrushStrokes.putCell([III)V
abbrev rX5_putCell : Room := { frames := 0, cells := 0, slots := 0, locals := 0 }
noncomputable def fX5_putCell (p1 : Int32) (p2 : Int32) (na : Nat) (u : (Nat → Int32)) : Option ((Nat → Int32)) := (if p1 < 0 then (some u) else (if (Int32.ofNat na) ≤ p1 then (some u) else (gd (inb p1 na) (some (upd u p1.toNatClampNeg p2))))).bind fun u1 => some u1
set_option maxRecDepth 100000 in
set_option maxHeartbeats 4000000 in
theorem kX5_putCell (l : Launch) (g : kG) (a : Nat → Nat) (p1 : Int32) (p2 : Int32) (na : Nat) (u : (Nat → Int32)) (o1 : (Nat → Int32)) (hm : fX5_putCell p1 p2 na u = some o1) : KM l yX5_putCell wsX5_putCell rX5_putCell g [.ref (a 0), .int p1, .int p2] (wR g a na u) none (wR g a na o1) 0 0 := by
  refine KM.of (nL := 3) (by decide) rfl (Nat.le_of_ble_eq_true rfl) ?_
  intro p e s m args below meth c A ls C X hl
  have C : CT g p s m args meth c RX5 cX5_putCell 3 none wsX5_putCell A := C
  have hx := C.1
  have hb := C.2.1
  have hl : lv_has ls 3 [(0, .ref (a 0)), (1, .int p1), (2, .int p2)] := hl
  rw [fX5_putCell] at hm
  refine lv_iload_n hx hb dX5_putCell_0 rfl (lv_at hl 1 rfl) ?_
  obtain ⟨u1, hE, hm⟩ := bnd hm
  have K : ∀ (H : Heap) (locs : List Loc) (ls : Array Slot), ST g A s H locs (wR g a na u1) → lv_has ls 3 [] → W p l e rX5_putCell s m args below meth c H locs 0 0 (kEnd g below args s none (wR g a na o1) A 0 0) (F0 m 14 ls []) := by
    intro H locs ls X hl
    clear hE
    cases sm hm
    exact kvret C X dX5_putCell_14
  clear hm
  have hm := hE
  clear hE
  refine lv_if_lt (tgt := 14) hx hb dX5_putCell_1 (by decide) (fun hc => ?_) (fun hc => ?_)
  · have hm := ifp hc hm
    cases sm hm
    exact K _ _ _ X (lv_sub hl [] rfl)
  · have hm := ifn hc hm
    refine lv_iload_n hx hb dX5_putCell_4 rfl (lv_at hl 1 rfl) ?_
    refine lv_aload_n hx hb dX5_putCell_5 rfl (lv_at hl 0 rfl) ?_
    refine kalen C X 0 rfl (v := Int32.ofNat na) rfl dX5_putCell_6 ?_
    refine lv_icmp_ge (tgt := 14) hx hb dX5_putCell_7 (by decide) (fun hc => ?_) (fun hc => ?_)
    · have hm := ifp hc hm
      cases sm hm
      exact K _ _ _ X (lv_sub hl [] rfl)
    · have hm := ifn hc hm
      refine lv_aload_n hx hb dX5_putCell_10 rfl (lv_at hl 0 rfl) ?_
      refine lv_iload_n hx hb dX5_putCell_11 rfl (lv_at hl 1 rfl) ?_
      refine lv_iload_n hx hb dX5_putCell_12 rfl (lv_at hl 2 rfl) ?_
      obtain ⟨hgi, hm⟩ := gd_t hm
      refine kiast C X 0 rfl hgi (w2 := wR g a na (upd u p1.toNatClampNeg p2)) rfl dX5_putCell_13 (fun H locs X => ?_)
      cases sm hm
      exact K _ _ _ X (lv_sub hl [] rfl)
-- X5 BrushStrokes.hasBit(II)Z
abbrev rX5_hasBit : Room := { frames := 0, cells := 0, slots := 0, locals := 0 }
noncomputable def fX5_hasBit (p1 : Int32) (p2 : Int32) : Option (Int32) := (if p2 < 0 then (some 0) else (if 24 ≤ p2 then (some 0) else (if ((p1 >>> (p2 &&& 31)) &&& 1) = 0 then (some 0) else (some 1)))).bind fun v1 => gd (isb v1) (some v1)
set_option maxRecDepth 100000 in
set_option maxHeartbeats 4000000 in
theorem kX5_hasBit (l : Launch) (g : kG) (p1 : Int32) (p2 : Int32) (o1 : Int32) (hm : fX5_hasBit p1 p2 = some o1) : KM l yX5_hasBit wsX5_hasBit rX5_hasBit g [.int p1, .int p2] ([]) (some (.int o1)) ([]) 0 0 := by
  refine KM.of (nL := 2) (by decide) rfl (Nat.le_of_ble_eq_true rfl) ?_
  intro p e s m args below meth c A ls C X hl
  have C : CT g p s m args meth c RX5 cX5_hasBit 2 (some .boolean) wsX5_hasBit A := C
  have hx := C.1
  have hb := C.2.1
  have hl : lv_has ls 2 [(0, .int p1), (1, .int p2)] := hl
  rw [fX5_hasBit] at hm
  refine lv_iload_n hx hb dX5_hasBit_0 rfl (lv_at hl 1 rfl) ?_
  obtain ⟨v1, hE, hm⟩ := bnd hm
  have K : ∀ (H : Heap) (locs : List Loc) (ls : Array Slot), ST g A s H locs ([]) → lv_has ls 2 [] → W p l e rX5_hasBit s m args below meth c H locs 0 0 (kEnd g below args s (some (.int o1)) ([]) A 0 0) (F0 m 23 ls [.int v1]) := by
    intro H locs ls X hl
    clear hE
    obtain ⟨hgb, hm⟩ := gd_t hm
    cases sm hm
    exact kzret (isb_n hgb) C X dX5_hasBit_23
  clear hm
  have hm := hE
  clear hE
  refine lv_if_lt (tgt := 22) hx hb dX5_hasBit_1 (by decide) (fun hc => ?_) (fun hc => ?_)
  · have hm := ifp hc hm
    refine lv_iconst (v := 0) hx hb dX5_hasBit_22 (by decide) ?_
    cases sm hm
    exact K _ _ _ X (lv_sub hl [] rfl)
  · have hm := ifn hc hm
    refine lv_iload_n hx hb dX5_hasBit_4 rfl (lv_at hl 1 rfl) ?_
    refine lv_bipush (v := 24) hx hb dX5_hasBit_5 (by decide) ?_
    refine lv_icmp_ge (tgt := 22) hx hb dX5_hasBit_7 (by decide) (fun hc => ?_) (fun hc => ?_)
    · have hm := ifp hc hm
      refine lv_iconst (v := 0) hx hb dX5_hasBit_22 (by decide) ?_
      cases sm hm
      exact K _ _ _ X (lv_sub hl [] rfl)
    · have hm := ifn hc hm
      refine lv_iload_n hx hb dX5_hasBit_10 rfl (lv_at hl 0 rfl) ?_
      refine lv_iload_n hx hb dX5_hasBit_11 rfl (lv_at hl 1 rfl) ?_
      refine lv_ishr hx hb dX5_hasBit_12 ?_
      refine lv_iconst (v := 1) hx hb dX5_hasBit_13 (by decide) ?_
      refine lv_iand hx hb dX5_hasBit_14 ?_
      refine lv_if_eq (tgt := 22) hx hb dX5_hasBit_15 (by decide) (fun hc => ?_) (fun hc => ?_)
      · have hm := ifp hc hm
        refine lv_iconst (v := 0) hx hb dX5_hasBit_22 (by decide) ?_
        cases sm hm
        exact K _ _ _ X (lv_sub hl [] rfl)
      · have hm := ifn hc hm
        refine lv_iconst (v := 1) hx hb dX5_hasBit_18 (by decide) ?_
        refine lv_goto (tgt := 23) hx hb dX5_hasBit_19 (by decide) ?_
        cases sm hm
        exact K _ _ _ X (lv_sub hl [] rfl)
-- X5 BrushStrokes.root(J)I
abbrev rX5_root : Room := { frames := 0, cells := 0, slots := 0, locals := 0 }
noncomputable def bX5_root_6 (c1 : Int64) : Int32 × Int32 → Option ((Int32 × Int32) ⊕ (Int32))
  | (x2, x3) => if x3 ≤ 0 then (some (.inr x2)) else ((if c1 < (((x2 + x3).toInt64) * ((x2 + x3).toInt64)) then (some x2) else (some (x2 + x3))).bind fun v5 => some (.inl (v5, x3 >>> (1 &&& 31))))
noncomputable def lX5_root_6 (c1 : Int64) (x2 : Int32) (x3 : Int32) : Option (Int32) := lp (bX5_root_6 c1) (x2, x3)
theorem lX5_root_6_eq (c1 : Int64) (x2 : Int32) (x3 : Int32) : lX5_root_6 c1 x2 x3 = (if x3 ≤ 0 then (some (.inr x2)) else ((if c1 < (((x2 + x3).toInt64) * ((x2 + x3).toInt64)) then (some x2) else (some (x2 + x3))).bind fun v5 => some (.inl (v5, x3 >>> (1 &&& 31))))).bind fun r => Sum.elim (fun z => lX5_root_6 c1 z.1 z.2) (fun r => some r) r := lp_eq (bX5_root_6 c1) (x2, x3)
set_option maxRecDepth 100000 in
set_option maxHeartbeats 4000000 in
theorem tX5_root_6 {p : Program} {l : Launch} {e : Env} {s : State} {m : MethodId} {args : Array Value} {below : List Frame} {meth : Method} {c : Code} {g : kG} {A : Nat → Prop} {Q : State → Prop} (C : CT g p s m args meth c RX5 cX5_root 6 (some .int) wsX5_root A) (c1 : Int64) (y4 : Int32) (kk : ∀ (H : Heap) (locs : List Loc) (ls : Array Slot), ST g A s H locs ([]) → lv_has ls 6 [(2, .int y4)] → W p l e rX5_root s m args below meth c H locs 0 0 Q (F0 m 37 ls [])) : ∀ (n : Nat) (x2 : Int32) (x3 : Int32), whl (bX5_root_6 c1) n (x2, x3) = some y4 → ∀ (H : Heap) (locs : List Loc) (ls : Array Slot), ST g A s H locs ([]) → lv_has ls 6 [(0, .long c1), (2, .int x2), (3, .int x3)] → W p l e rX5_root s m args below meth c H locs 0 0 Q (F0 m 6 ls []) := by
  have hx := C.1
  have hb := C.2.1
  intro n
  induction n with
  | zero =>
    intro x2 x3 hm
    cases hm
  | succ n ih =>
    intro x2 x3 hm H locs ls X hl
    rw [whl] at hm
    obtain ⟨q, hq, hm2⟩ := bnd hm
    clear hm
    have hm := hq
    clear hq
    rw [bX5_root_6] at hm
    refine lv_iload_n hx hb dX5_root_6 rfl (lv_at hl 2 rfl) ?_
    refine lv_if_le (tgt := 37) hx hb dX5_root_7 (by decide) (fun hc => ?_) (fun hc => ?_)
    · have hm := ifp hc hm
      cases sm hm
      cases sm hm2
      exact kk _ _ _ X (lv_sub hl [1] rfl)
    · have hm := ifn hc hm
      refine lv_iload_n hx hb dX5_root_10 rfl (lv_at hl 1 rfl) ?_
      refine lv_iload_n hx hb dX5_root_11 rfl (lv_at hl 2 rfl) ?_
      refine lv_iadd hx hb dX5_root_12 ?_
      refine lv_i2l (v := (x2 + x3).toInt64) hx hb dX5_root_13 rfl ?_
      refine lv_lstore (lv' := [(4, .long ((x2 + x3).toInt64)), (0, .long c1), (2, .int x2), (3, .int x3)]) hx hb dX5_root_14 hl (by decide) rfl (fun ls hl => ?_)
      refine lv_lload hx hb dX5_root_16 (lv_at hl 0 rfl) ?_
      refine lv_lload hx hb dX5_root_18 (lv_at hl 0 rfl) ?_
      refine lv_lmul hx hb dX5_root_20 ?_
      refine lv_lload_n hx hb dX5_root_21 rfl (lv_at hl 1 rfl) ?_
      obtain ⟨v5, hE, hm⟩ := bnd hm
      have K : ∀ (H : Heap) (locs : List Loc) (ls : Array Slot), ST g A s H locs ([]) → lv_has ls 6 [(0, .long c1), (2, .int v5), (3, .int x3)] → W p l e rX5_root s m args below meth c H locs 0 0 Q (F0 m 30 ls []) := by
        intro H locs ls X hl
        clear hE
        refine lv_iload_n hx hb dX5_root_30 rfl (lv_at hl 2 rfl) ?_
        refine lv_iconst (v := 1) hx hb dX5_root_31 (by decide) ?_
        refine lv_ishr hx hb dX5_root_32 ?_
        refine lv_istore_n (lv' := [(3, .int (x3 >>> (1 &&& 31))), (0, .long c1), (2, .int v5)]) hx hb dX5_root_33 rfl hl (by decide) rfl (fun ls hl => ?_)
        refine lv_goto (tgt := 6) hx hb dX5_root_34 (by decide) ?_
        cases sm hm
        exact ih _ _ hm2 _ _ _ X (lv_sub hl [1, 2, 0] rfl)
      clear hm
      have hm := hE
      clear hE
      refine klcmp_gt (tgt := 30) hx hb dX5_root_22 dX5_root_23 (by decide) (fun hc => ?_) (fun hc => ?_)
      · have hm := ifp hc hm
        cases sm hm
        exact K _ _ _ X (lv_sub hl [1, 2, 3] rfl)
      · have hm := ifn hc hm
        refine lv_iload_n hx hb dX5_root_26 rfl (lv_at hl 2 rfl) ?_
        refine lv_iload_n hx hb dX5_root_27 rfl (lv_at hl 3 rfl) ?_
        refine lv_iadd hx hb dX5_root_28 ?_
        refine lv_istore_n (lv' := [(2, .int (x2 + x3)), (4, .long ((x2 + x3).toInt64)), (0, .long c1), (3, .int x3)]) hx hb dX5_root_29 rfl hl (by decide) rfl (fun ls hl => ?_)
        cases sm hm
        exact K _ _ _ X (lv_sub hl [2, 0, 3] rfl)
noncomputable def fX5_root (p1 : Int64) : Option (Int32) := (lX5_root_6 p1 0 16384).bind fun y6 => some y6
set_option maxRecDepth 100000 in
set_option maxHeartbeats 4000000 in
theorem kX5_root (l : Launch) (g : kG) (p1 : Int64) (o1 : Int32) (hm : fX5_root p1 = some o1) : KM l yX5_root wsX5_root rX5_root g [.long p1] ([]) (some (.int o1)) ([]) 0 0 := by
  refine KM.of (nL := 6) (by decide) rfl (Nat.le_of_ble_eq_true rfl) ?_
  intro p e s m args below meth c A ls C X hl
  have C : CT g p s m args meth c RX5 cX5_root 6 (some .int) wsX5_root A := C
  have hx := C.1
  have hb := C.2.1
  have hl : lv_has ls 6 [(0, .long p1)] := hl
  rw [fX5_root] at hm
  refine lv_iconst (v := 0) hx hb dX5_root_0 (by decide) ?_
  refine lv_istore_n (lv' := [(2, .int 0), (0, .long p1)]) hx hb dX5_root_1 rfl hl (by decide) rfl (fun ls hl => ?_)
  refine lv_sipush (v := 16384) hx hb dX5_root_2 (by decide) ?_
  refine lv_istore_n (lv' := [(3, .int 16384), (2, .int 0), (0, .long p1)]) hx hb dX5_root_5 rfl hl (by decide) rfl (fun ls hl => ?_)
  obtain ⟨y6, hL, hm⟩ := bnd hm
  obtain ⟨nn, hn⟩ := lp_run hL
  refine tX5_root_6 C p1 y6 (fun H locs ls X hl => ?_) nn _ _ hn _ _ _ X (lv_sub hl [2, 1, 0] rfl)
  clear hL hn
  refine lv_iload_n hx hb dX5_root_37 rfl (lv_at hl 0 rfl) ?_
  cases sm hm
  exact kiret C X dX5_root_38
-- X3 BrushStrokes$Stroke.size()I
abbrev rX3_size : Room := { frames := 0, cells := 0, slots := 0, locals := 0 }
theorem fl_X3_size_15 : (Cond.fieldLink RX3 15 "BrushStrokes$Stroke" "size" "I") ∈ wsX3_size := by decide +kernel
theorem in_X3_size_X3 : ∀ w ∈ u_ws RX3 TX3 3, w ∈ wsX3_size := by decide +kernel
noncomputable def fX3_size (u : SS) : Option (Int32) := some (S_size u)
set_option maxRecDepth 100000 in
set_option maxHeartbeats 4000000 in
theorem kX3_size (l : Launch) (g : kG) (a : Nat → Nat) (u : SS) (o1 : Int32) (hm : fX3_size u = some o1) : KM l yX3_size wsX3_size rX3_size g [.ref (a 0)] (wS g a u) (some (.int o1)) (wS g a u) 0 0 := by
  refine KM.of (nL := 1) (by decide) rfl (Nat.le_of_ble_eq_true rfl) ?_
  intro p e s m args below meth c A ls C X hl
  have C : CT g p s m args meth c RX3 cX3_size 1 (some .int) wsX3_size A := C
  have hx := C.1
  have hb := C.2.1
  have hl : lv_has ls 1 [(0, .ref (a 0))] := hl
  have hinX3 := in_X3_size_X3
  have hf15 := C.2.2.2.2.2.1 _ fl_X3_size_15
  rw [fX3_size] at hm
  refine lv_aload_n hx hb dX3_size_0 rfl (lv_at hl 0 rfl) ?_
  refine kget C X 0 (ci := 3) rfl rfl hinX3 1 (by decide) hf15 (v := .int (S_size u)) rfl dX3_size_1 ?_
  cases sm hm
  exact kiret C X dX3_size_4
-- X3 BrushStrokes$Stroke.x(I)I
abbrev rX3_x : Room := { frames := 0, cells := 0, slots := 0, locals := 0 }
theorem fl_X3_x_11 : (Cond.fieldLink RX3 11 "BrushStrokes$Stroke" "numbers" "[I") ∈ wsX3_x := by decide +kernel
theorem in_X3_x_X3 : ∀ w ∈ u_ws RX3 TX3 3, w ∈ wsX3_x := by decide +kernel
noncomputable def fX3_x (p1 : Int32) (u : SS) : Option (Int32) := (if (3 * p1) < 0 then (some 0) else (if 72 ≤ (3 * p1) then (some 0) else (gd (inb (3 * p1) 72) (some (S_numbers u (3 * p1).toNatClampNeg))))).bind fun v1 => some v1
set_option maxRecDepth 100000 in
set_option maxHeartbeats 4000000 in
theorem kX3_x (l : Launch) (g : kG) (a : Nat → Nat) (p1 : Int32) (u : SS) (o1 : Int32) (hm : fX3_x p1 u = some o1) : KM l yX3_x wsX3_x rX3_x g [.ref (a 0), .int p1] (wS g a u) (some (.int o1)) (wS g a u) 0 0 := by
  refine KM.of (nL := 3) (by decide) rfl (Nat.le_of_ble_eq_true rfl) ?_
  intro p e s m args below meth c A ls C X hl
  have C : CT g p s m args meth c RX3 cX3_x 3 (some .int) wsX3_x A := C
  have hx := C.1
  have hb := C.2.1
  have hl : lv_has ls 3 [(0, .ref (a 0)), (1, .int p1)] := hl
  have hinX3 := in_X3_x_X3
  have hf11 := C.2.2.2.2.2.1 _ fl_X3_x_11
  rw [fX3_x] at hm
  refine lv_iconst (v := 3) hx hb dX3_x_0 (by decide) ?_
  refine lv_iload_n hx hb dX3_x_1 rfl (lv_at hl 1 rfl) ?_
  refine lv_imul hx hb dX3_x_2 ?_
  refine lv_istore_n (lv' := [(2, .int (3 * p1)), (0, .ref (a 0)), (1, .int p1)]) hx hb dX3_x_3 rfl hl (by decide) rfl (fun ls hl => ?_)
  refine lv_iload_n hx hb dX3_x_4 rfl (lv_at hl 0 rfl) ?_
  obtain ⟨v1, hE, hm⟩ := bnd hm
  have K : ∀ (H : Heap) (locs : List Loc) (ls : Array Slot), ST g A s H locs (wS g a u) → lv_has ls 3 [] → W p l e rX3_x s m args below meth c H locs 0 0 (kEnd g below args s (some (.int o1)) (wS g a u) A 0 0) (F0 m 27 ls [.int v1]) := by
    intro H locs ls X hl
    clear hE
    cases sm hm
    exact kiret C X dX3_x_27
  clear hm
  have hm := hE
  clear hE
  refine lv_if_lt (tgt := 26) hx hb dX3_x_5 (by decide) (fun hc => ?_) (fun hc => ?_)
  · have hm := ifp hc hm
    refine lv_iconst (v := 0) hx hb dX3_x_26 (by decide) ?_
    cases sm hm
    exact K _ _ _ X (lv_sub hl [] rfl)
  · have hm := ifn hc hm
    refine lv_iload_n hx hb dX3_x_8 rfl (lv_at hl 0 rfl) ?_
    refine lv_aload_n hx hb dX3_x_9 rfl (lv_at hl 1 rfl) ?_
    refine kget C X 0 (ci := 3) rfl rfl hinX3 0 (by decide) hf11 (v := .ref (a 1)) rfl dX3_x_10 ?_
    refine kalen C X 1 rfl (v := 72) rfl dX3_x_13 ?_
    refine lv_icmp_ge (tgt := 26) hx hb dX3_x_14 (by decide) (fun hc => ?_) (fun hc => ?_)
    · have hm := ifp hc hm
      refine lv_iconst (v := 0) hx hb dX3_x_26 (by decide) ?_
      cases sm hm
      exact K _ _ _ X (lv_sub hl [] rfl)
    · have hm := ifn hc hm
      refine lv_aload_n hx hb dX3_x_17 rfl (lv_at hl 1 rfl) ?_
      refine kget C X 0 (ci := 3) rfl rfl hinX3 0 (by decide) hf11 (v := .ref (a 1)) rfl dX3_x_18 ?_
      refine lv_iload_n hx hb dX3_x_21 rfl (lv_at hl 0 rfl) ?_
      obtain ⟨hgi, hm⟩ := gd_t hm
      refine kiald C X 1 rfl hgi dX3_x_22 ?_
      refine lv_goto (tgt := 27) hx hb dX3_x_23 (by decide) ?_
      cases sm hm
      exact K _ _ _ X (lv_sub hl [] rfl)
-- X3 BrushStrokes$Stroke.y(I)I
abbrev rX3_y : Room := { frames := 0, cells := 0, slots := 0, locals := 0 }
theorem fl_X3_y_11 : (Cond.fieldLink RX3 11 "BrushStrokes$Stroke" "numbers" "[I") ∈ wsX3_y := by decide +kernel
theorem in_X3_y_X3 : ∀ w ∈ u_ws RX3 TX3 3, w ∈ wsX3_y := by decide +kernel
noncomputable def fX3_y (p1 : Int32) (u : SS) : Option (Int32) := (if ((3 * p1) + 1) < 0 then (some 0) else (if 72 ≤ ((3 * p1) + 1) then (some 0) else (gd (inb ((3 * p1) + 1) 72) (some (S_numbers u ((3 * p1) + 1).toNatClampNeg))))).bind fun v1 => some v1
set_option maxRecDepth 100000 in
set_option maxHeartbeats 4000000 in
theorem kX3_y (l : Launch) (g : kG) (a : Nat → Nat) (p1 : Int32) (u : SS) (o1 : Int32) (hm : fX3_y p1 u = some o1) : KM l yX3_y wsX3_y rX3_y g [.ref (a 0), .int p1] (wS g a u) (some (.int o1)) (wS g a u) 0 0 := by
  refine KM.of (nL := 3) (by decide) rfl (Nat.le_of_ble_eq_true rfl) ?_
  intro p e s m args below meth c A ls C X hl
  have C : CT g p s m args meth c RX3 cX3_y 3 (some .int) wsX3_y A := C
  have hx := C.1
  have hb := C.2.1
  have hl : lv_has ls 3 [(0, .ref (a 0)), (1, .int p1)] := hl
  have hinX3 := in_X3_y_X3
  have hf11 := C.2.2.2.2.2.1 _ fl_X3_y_11
  rw [fX3_y] at hm
  refine lv_iconst (v := 3) hx hb dX3_y_0 (by decide) ?_
  refine lv_iload_n hx hb dX3_y_1 rfl (lv_at hl 1 rfl) ?_
  refine lv_imul hx hb dX3_y_2 ?_
  refine lv_iconst (v := 1) hx hb dX3_y_3 (by decide) ?_
  refine lv_iadd hx hb dX3_y_4 ?_
  refine lv_istore_n (lv' := [(2, .int ((3 * p1) + 1)), (0, .ref (a 0)), (1, .int p1)]) hx hb dX3_y_5 rfl hl (by decide) rfl (fun ls hl => ?_)
  refine lv_iload_n hx hb dX3_y_6 rfl (lv_at hl 0 rfl) ?_
  obtain ⟨v1, hE, hm⟩ := bnd hm
  have K : ∀ (H : Heap) (locs : List Loc) (ls : Array Slot), ST g A s H locs (wS g a u) → lv_has ls 3 [] → W p l e rX3_y s m args below meth c H locs 0 0 (kEnd g below args s (some (.int o1)) (wS g a u) A 0 0) (F0 m 29 ls [.int v1]) := by
    intro H locs ls X hl
    clear hE
    cases sm hm
    exact kiret C X dX3_y_29
  clear hm
  have hm := hE
  clear hE
  refine lv_if_lt (tgt := 28) hx hb dX3_y_7 (by decide) (fun hc => ?_) (fun hc => ?_)
  · have hm := ifp hc hm
    refine lv_iconst (v := 0) hx hb dX3_y_28 (by decide) ?_
    cases sm hm
    exact K _ _ _ X (lv_sub hl [] rfl)
  · have hm := ifn hc hm
    refine lv_iload_n hx hb dX3_y_10 rfl (lv_at hl 0 rfl) ?_
    refine lv_aload_n hx hb dX3_y_11 rfl (lv_at hl 1 rfl) ?_
    refine kget C X 0 (ci := 3) rfl rfl hinX3 0 (by decide) hf11 (v := .ref (a 1)) rfl dX3_y_12 ?_
    refine kalen C X 1 rfl (v := 72) rfl dX3_y_15 ?_
    refine lv_icmp_ge (tgt := 28) hx hb dX3_y_16 (by decide) (fun hc => ?_) (fun hc => ?_)
    · have hm := ifp hc hm
      refine lv_iconst (v := 0) hx hb dX3_y_28 (by decide) ?_
      cases sm hm
      exact K _ _ _ X (lv_sub hl [] rfl)
    · have hm := ifn hc hm
      refine lv_aload_n hx hb dX3_y_19 rfl (lv_at hl 1 rfl) ?_
      refine kget C X 0 (ci := 3) rfl rfl hinX3 0 (by decide) hf11 (v := .ref (a 1)) rfl dX3_y_20 ?_
      refine lv_iload_n hx hb dX3_y_23 rfl (lv_at hl 0 rfl) ?_
      obtain ⟨hgi, hm⟩ := gd_t hm
      refine kiald C X 1 rfl hgi dX3_y_24 ?_
      refine lv_goto (tgt := 29) hx hb dX3_y_25 (by decide) ?_
      cases sm hm
      exact K _ _ _ X (lv_sub hl [] rfl)
-- X3 BrushStrokes$Stroke.width(I)I
abbrev rX3_width : Room := { frames := 0, cells := 0, slots := 0, locals := 0 }
theorem fl_X3_width_11 : (Cond.fieldLink RX3 11 "BrushStrokes$Stroke" "numbers" "[I") ∈ wsX3_width := by decide +kernel
theorem in_X3_width_X3 : ∀ w ∈ u_ws RX3 TX3 3, w ∈ wsX3_width := by decide +kernel
noncomputable def fX3_width (p1 : Int32) (u : SS) : Option (Int32) := (if ((3 * p1) + 2) < 0 then (some 0) else (if 72 ≤ ((3 * p1) + 2) then (some 0) else (gd (inb ((3 * p1) + 2) 72) (some (S_numbers u ((3 * p1) + 2).toNatClampNeg))))).bind fun v1 => some v1
set_option maxRecDepth 100000 in
set_option maxHeartbeats 4000000 in
theorem kX3_width (l : Launch) (g : kG) (a : Nat → Nat) (p1 : Int32) (u : SS) (o1 : Int32) (hm : fX3_width p1 u = some o1) : KM l yX3_width wsX3_width rX3_width g [.ref (a 0), .int p1] (wS g a u) (some (.int o1)) (wS g a u) 0 0 := by
  refine KM.of (nL := 3) (by decide) rfl (Nat.le_of_ble_eq_true rfl) ?_
  intro p e s m args below meth c A ls C X hl
  have C : CT g p s m args meth c RX3 cX3_width 3 (some .int) wsX3_width A := C
  have hx := C.1
  have hb := C.2.1
  have hl : lv_has ls 3 [(0, .ref (a 0)), (1, .int p1)] := hl
  have hinX3 := in_X3_width_X3
  have hf11 := C.2.2.2.2.2.1 _ fl_X3_width_11
  rw [fX3_width] at hm
  refine lv_iconst (v := 3) hx hb dX3_width_0 (by decide) ?_
  refine lv_iload_n hx hb dX3_width_1 rfl (lv_at hl 1 rfl) ?_
  refine lv_imul hx hb dX3_width_2 ?_
  refine lv_iconst (v := 2) hx hb dX3_width_3 (by decide) ?_
  refine lv_iadd hx hb dX3_width_4 ?_
  refine lv_istore_n (lv' := [(2, .int ((3 * p1) + 2)), (0, .ref (a 0)), (1, .int p1)]) hx hb dX3_width_5 rfl hl (by decide) rfl (fun ls hl => ?_)
  refine lv_iload_n hx hb dX3_width_6 rfl (lv_at hl 0 rfl) ?_
  obtain ⟨v1, hE, hm⟩ := bnd hm
  have K : ∀ (H : Heap) (locs : List Loc) (ls : Array Slot), ST g A s H locs (wS g a u) → lv_has ls 3 [] → W p l e rX3_width s m args below meth c H locs 0 0 (kEnd g below args s (some (.int o1)) (wS g a u) A 0 0) (F0 m 29 ls [.int v1]) := by
    intro H locs ls X hl
    clear hE
    cases sm hm
    exact kiret C X dX3_width_29
  clear hm
  have hm := hE
  clear hE
  refine lv_if_lt (tgt := 28) hx hb dX3_width_7 (by decide) (fun hc => ?_) (fun hc => ?_)
  · have hm := ifp hc hm
    refine lv_iconst (v := 0) hx hb dX3_width_28 (by decide) ?_
    cases sm hm
    exact K _ _ _ X (lv_sub hl [] rfl)
  · have hm := ifn hc hm
    refine lv_iload_n hx hb dX3_width_10 rfl (lv_at hl 0 rfl) ?_
    refine lv_aload_n hx hb dX3_width_11 rfl (lv_at hl 1 rfl) ?_
    refine kget C X 0 (ci := 3) rfl rfl hinX3 0 (by decide) hf11 (v := .ref (a 1)) rfl dX3_width_12 ?_
    refine kalen C X 1 rfl (v := 72) rfl dX3_width_15 ?_
    refine lv_icmp_ge (tgt := 28) hx hb dX3_width_16 (by decide) (fun hc => ?_) (fun hc => ?_)
    · have hm := ifp hc hm
      refine lv_iconst (v := 0) hx hb dX3_width_28 (by decide) ?_
      cases sm hm
      exact K _ _ _ X (lv_sub hl [] rfl)
    · have hm := ifn hc hm
      refine lv_aload_n hx hb dX3_width_19 rfl (lv_at hl 1 rfl) ?_
      refine kget C X 0 (ci := 3) rfl rfl hinX3 0 (by decide) hf11 (v := .ref (a 1)) rfl dX3_width_20 ?_
      refine lv_iload_n hx hb dX3_width_23 rfl (lv_at hl 0 rfl) ?_
      obtain ⟨hgi, hm⟩ := gd_t hm
      refine kiald C X 1 rfl hgi dX3_width_24 ?_
      refine lv_goto (tgt := 29) hx hb dX3_width_25 (by decide) ?_
      cases sm hm
      exact K _ _ _ X (lv_sub hl [] rfl)
-- X3 BrushStrokes$Stroke.kept()I
abbrev rX3_kept : Room := { frames := 0, cells := 0, slots := 0, locals := 0 }
theorem fl_X3_kept_19 : (Cond.fieldLink RX3 19 "BrushStrokes$Stroke" "kept" "I") ∈ wsX3_kept := by decide +kernel
theorem in_X3_kept_X3 : ∀ w ∈ u_ws RX3 TX3 3, w ∈ wsX3_kept := by decide +kernel
noncomputable def fX3_kept (u : SS) : Option (Int32) := some (S_kept u)
set_option maxRecDepth 100000 in
set_option maxHeartbeats 4000000 in
theorem kX3_kept (l : Launch) (g : kG) (a : Nat → Nat) (u : SS) (o1 : Int32) (hm : fX3_kept u = some o1) : KM l yX3_kept wsX3_kept rX3_kept g [.ref (a 0)] (wS g a u) (some (.int o1)) (wS g a u) 0 0 := by
  refine KM.of (nL := 1) (by decide) rfl (Nat.le_of_ble_eq_true rfl) ?_
  intro p e s m args below meth c A ls C X hl
  have C : CT g p s m args meth c RX3 cX3_kept 1 (some .int) wsX3_kept A := C
  have hx := C.1
  have hb := C.2.1
  have hl : lv_has ls 1 [(0, .ref (a 0))] := hl
  have hinX3 := in_X3_kept_X3
  have hf19 := C.2.2.2.2.2.1 _ fl_X3_kept_19
  rw [fX3_kept] at hm
  refine lv_aload_n hx hb dX3_kept_0 rfl (lv_at hl 0 rfl) ?_
  refine kget C X 0 (ci := 3) rfl rfl hinX3 2 (by decide) hf19 (v := .int (S_kept u)) rfl dX3_kept_1 ?_
  cases sm hm
  exact kiret C X dX3_kept_4
-- X3 BrushStrokes$Stroke.isKept(I)Z
abbrev rX3_isKept : Room := { frames := 1, cells := 0, slots := 0, locals := 21 }
theorem fl_X3_isKept_19 : (Cond.fieldLink RX3 19 "BrushStrokes$Stroke" "kept" "I") ∈ wsX3_isKept := by decide +kernel
theorem in_X3_isKept_X3 : ∀ w ∈ u_ws RX3 TX3 3, w ∈ wsX3_isKept := by decide +kernel
theorem cw_X3_isKept_X5_hasBit_22 {p : Program} {s : State} {m : MethodId} {args : Array Value} {meth : Method} {c : Code} {g : kG} {A : Nat → Prop} (C : CT g p s m args meth c RX3 cX3_isKept 2 (some .boolean) wsX3_isKept A) : va_CN rX3_isKept s args RX3 22 yX5_hasBit RX5 cX5_hasBit 2 (some .boolean) wsX5_hasBit rX5_hasBit 0 0 2 ∧ (Cond.static yX5_hasBit).before args s = true ∧ True := ⟨va_cnB 2 C.2.2.2.2.2.1 gX3_isKept_X5_hasBit_n22 rfl rfl rfl (C.2.2.2.2.2.2.2.1.2.1.1 (RX3, 22, yX5_hasBit, RX5) (by decide +kernel)) (C.2.2.2.2.2.1 (.initialized RX5) (by decide +kernel)) (by decide +kernel) ⟨Nat.le_of_ble_eq_true rfl, Nat.le_of_ble_eq_true rfl⟩, C.2.2.2.2.2.1 (.static yX5_hasBit) (by decide +kernel), trivial⟩
noncomputable def fX3_isKept (p1 : Int32) (u : SS) : Option (Int32) := (fX5_hasBit (S_kept u) p1).bind fun r1 => gd (isb r1) (some r1)
set_option maxRecDepth 100000 in
set_option maxHeartbeats 4000000 in
theorem kX3_isKept (l : Launch) (g : kG) (a : Nat → Nat) (p1 : Int32) (u : SS) (o1 : Int32) (hm : fX3_isKept p1 u = some o1) : KM l yX3_isKept wsX3_isKept rX3_isKept g [.ref (a 0), .int p1] (wS g a u) (some (.int o1)) (wS g a u) 0 0 := by
  refine KM.of (nL := 2) (by decide) rfl (Nat.le_of_ble_eq_true rfl) ?_
  intro p e s m args below meth c A ls C X hl
  have C : CT g p s m args meth c RX3 cX3_isKept 2 (some .boolean) wsX3_isKept A := C
  have hx := C.1
  have hb := C.2.1
  have hl : lv_has ls 2 [(0, .ref (a 0)), (1, .int p1)] := hl
  have hinX3 := in_X3_isKept_X3
  have hf19 := C.2.2.2.2.2.1 _ fl_X3_isKept_19
  rw [fX3_isKept] at hm
  refine lv_aload_n hx hb dX3_isKept_0 rfl (lv_at hl 0 rfl) ?_
  refine kget C X 0 (ci := 3) rfl rfl hinX3 2 (by decide) hf19 (v := .int (S_kept u)) rfl dX3_isKept_1 ?_
  refine lv_iload_n hx hb dX3_isKept_4 rfl (lv_at hl 1 rfl) ?_
  obtain ⟨r1, hcl, hm⟩ := bnd hm
  refine kN0 C X (kX5_hasBit l g (S_kept u) p1 r1 hcl) (cw_X3_isKept_X5_hasBit_22 C) (As := [.int (S_kept u), .int p1]) rfl hl (rest := []) rfl (Nat.le_of_ble_eq_true rfl) (st2 := [.int r1]) rfl dX3_isKept_5 ⟨Nat.le_of_ble_eq_true rfl, Nat.le_of_ble_eq_true rfl⟩ (fun H locs X => ?_)
  clear hcl
  obtain ⟨hgb, hm⟩ := gd_t hm
  cases sm hm
  exact kzret (isb_n hgb) C X dX3_isKept_8
-- X3 BrushStrokes$Stroke.keptCount()I
abbrev rX3_keptCount : Room := { frames := 1, cells := 0, slots := 0, locals := 20 }
theorem fl_X3_keptCount_19 : (Cond.fieldLink RX3 19 "BrushStrokes$Stroke" "kept" "I") ∈ wsX3_keptCount := by decide +kernel
theorem in_X3_keptCount_X3 : ∀ w ∈ u_ws RX3 TX3 3, w ∈ wsX3_keptCount := by decide +kernel
theorem cw_X3_keptCount_J6_bitCount_0f7a4_26 {p : Program} {s : State} {m : MethodId} {args : Array Value} {meth : Method} {c : Code} {g : kG} {A : Nat → Prop} (C : CT g p s m args meth c RX3 cX3_keptCount 1 (some .int) wsX3_keptCount A) : CallB rX3_keptCount s args RX3 26 yJ6_bitCount_0f7a4 cJ6_bitCount_0f7a4 1 (some .int) wsJ6_bitCount_0f7a4 rJ6_bitCount_0f7a4 0 0 1 ∧ (Cond.static yJ6_bitCount_0f7a4).before args s = true := va_cwS 1 C.2.2.2.2.2.1 gX3_keptCount_J6_bitCount_0f7a4 rfl rfl rfl (by decide +kernel) ⟨Nat.le_of_ble_eq_true rfl, Nat.le_of_ble_eq_true rfl⟩
noncomputable def fX3_keptCount (u : SS) : Option (Int32) := (fJ6_bitCount_0f7a4 (S_kept u)).bind fun r1 => some r1
set_option maxRecDepth 100000 in
set_option maxHeartbeats 4000000 in
theorem kX3_keptCount (l : Launch) (g : kG) (a : Nat → Nat) (u : SS) (o1 : Int32) (hm : fX3_keptCount u = some o1) : KM l yX3_keptCount wsX3_keptCount rX3_keptCount g [.ref (a 0)] (wS g a u) (some (.int o1)) (wS g a u) 0 0 := by
  refine KM.of (nL := 1) (by decide) rfl (Nat.le_of_ble_eq_true rfl) ?_
  intro p e s m args below meth c A ls C X hl
  have C : CT g p s m args meth c RX3 cX3_keptCount 1 (some .int) wsX3_keptCount A := C
  have hx := C.1
  have hb := C.2.1
  have hl : lv_has ls 1 [(0, .ref (a 0))] := hl
  have hinX3 := in_X3_keptCount_X3
  have hf19 := C.2.2.2.2.2.1 _ fl_X3_keptCount_19
  rw [fX3_keptCount] at hm
  refine lv_aload_n hx hb dX3_keptCount_0 rfl (lv_at hl 0 rfl) ?_
  refine kget C X 0 (ci := 3) rfl rfl hinX3 2 (by decide) hf19 (v := .int (S_kept u)) rfl dX3_keptCount_1 ?_
  obtain ⟨r1, hcl, hm⟩ := bnd hm
  refine kS0 C X (kJ6_bitCount_0f7a4 l g (S_kept u) r1 hcl) (cw_X3_keptCount_J6_bitCount_0f7a4_26 C) (As := [.int (S_kept u)]) rfl hl (rest := []) rfl (Nat.le_of_ble_eq_true rfl) (st2 := [.int r1]) rfl dX3_keptCount_4 ⟨Nat.le_of_ble_eq_true rfl, Nat.le_of_ble_eq_true rfl⟩ (fun H locs X => ?_)
  clear hcl
  cases sm hm
  exact kiret C X dX3_keptCount_7
-- X3 BrushStrokes$Stroke.keepAll()V
abbrev rX3_keepAll : Room := { frames := 0, cells := 0, slots := 0, locals := 0 }
theorem fl_X3_keepAll_15 : (Cond.fieldLink RX3 15 "BrushStrokes$Stroke" "size" "I") ∈ wsX3_keepAll := by decide +kernel
theorem fl_X3_keepAll_19 : (Cond.fieldLink RX3 19 "BrushStrokes$Stroke" "kept" "I") ∈ wsX3_keepAll := by decide +kernel
theorem in_X3_keepAll_X3 : ∀ w ∈ u_ws RX3 TX3 3, w ∈ wsX3_keepAll := by decide +kernel
noncomputable def fX3_keepAll (u : SS) : Option (SS) := some (S_s_kept u ((1 <<< ((S_size u) &&& 31)) - 1))
set_option maxRecDepth 100000 in
set_option maxHeartbeats 4000000 in
theorem kX3_keepAll (l : Launch) (g : kG) (a : Nat → Nat) (u : SS) (o1 : SS) (hm : fX3_keepAll u = some o1) : KM l yX3_keepAll wsX3_keepAll rX3_keepAll g [.ref (a 0)] (wS g a u) none (wS g a o1) 0 0 := by
  refine KM.of (nL := 1) (by decide) rfl (Nat.le_of_ble_eq_true rfl) ?_
  intro p e s m args below meth c A ls C X hl
  have C : CT g p s m args meth c RX3 cX3_keepAll 1 none wsX3_keepAll A := C
  have hx := C.1
  have hb := C.2.1
  have hl : lv_has ls 1 [(0, .ref (a 0))] := hl
  have hinX3 := in_X3_keepAll_X3
  have hf15 := C.2.2.2.2.2.1 _ fl_X3_keepAll_15
  have hf19 := C.2.2.2.2.2.1 _ fl_X3_keepAll_19
  rw [fX3_keepAll] at hm
  refine lv_aload_n hx hb dX3_keepAll_0 rfl (lv_at hl 0 rfl) ?_
  refine lv_iconst (v := 1) hx hb dX3_keepAll_1 (by decide) ?_
  refine lv_aload_n hx hb dX3_keepAll_2 rfl (lv_at hl 0 rfl) ?_
  refine kget C X 0 (ci := 3) rfl rfl hinX3 1 (by decide) hf15 (v := .int (S_size u)) rfl dX3_keepAll_3 ?_
  refine lv_ishl hx hb dX3_keepAll_6 ?_
  refine lv_iconst (v := 1) hx hb dX3_keepAll_7 (by decide) ?_
  refine lv_isub hx hb dX3_keepAll_8 ?_
  refine kput C X 0 (ci := 3) rfl rfl hinX3 tyX3_ok nmX3 2 (by decide) hf19 rfl (ty := .int) (v := .int ((1 <<< ((S_size u) &&& 31)) - 1)) rfl rfl rfl (Nat.le_of_ble_eq_true rfl) (w2 := wS g a (S_s_kept u ((1 <<< ((S_size u) &&& 31)) - 1))) rfl dX3_keepAll_9 (fun H locs X => ?_)
  cases sm hm
  exact kvret C X dX3_keepAll_12
-- X3 BrushStrokes$Stroke.keepOnly(I)V
abbrev rX3_keepOnly : Room := { frames := 0, cells := 0, slots := 0, locals := 0 }
theorem fl_X3_keepOnly_19 : (Cond.fieldLink RX3 19 "BrushStrokes$Stroke" "kept" "I") ∈ wsX3_keepOnly := by decide +kernel
theorem in_X3_keepOnly_X3 : ∀ w ∈ u_ws RX3 TX3 3, w ∈ wsX3_keepOnly := by decide +kernel
noncomputable def fX3_keepOnly (p1 : Int32) (u : SS) : Option (SS) := some (S_s_kept u p1)
set_option maxRecDepth 100000 in
set_option maxHeartbeats 4000000 in
theorem kX3_keepOnly (l : Launch) (g : kG) (a : Nat → Nat) (p1 : Int32) (u : SS) (o1 : SS) (hm : fX3_keepOnly p1 u = some o1) : KM l yX3_keepOnly wsX3_keepOnly rX3_keepOnly g [.ref (a 0), .int p1] (wS g a u) none (wS g a o1) 0 0 := by
  refine KM.of (nL := 2) (by decide) rfl (Nat.le_of_ble_eq_true rfl) ?_
  intro p e s m args below meth c A ls C X hl
  have C : CT g p s m args meth c RX3 cX3_keepOnly 2 none wsX3_keepOnly A := C
  have hx := C.1
  have hb := C.2.1
  have hl : lv_has ls 2 [(0, .ref (a 0)), (1, .int p1)] := hl
  have hinX3 := in_X3_keepOnly_X3
  have hf19 := C.2.2.2.2.2.1 _ fl_X3_keepOnly_19
  rw [fX3_keepOnly] at hm
  refine lv_aload_n hx hb dX3_keepOnly_0 rfl (lv_at hl 0 rfl) ?_
  refine lv_iload_n hx hb dX3_keepOnly_1 rfl (lv_at hl 1 rfl) ?_
  refine kput C X 0 (ci := 3) rfl rfl hinX3 tyX3_ok nmX3 2 (by decide) hf19 rfl (ty := .int) (v := .int p1) rfl rfl rfl (Nat.le_of_ble_eq_true rfl) (w2 := wS g a (S_s_kept u p1)) rfl dX3_keepOnly_2 (fun H locs X => ?_)
  cases sm hm
  exact kvret C X dX3_keepOnly_5
-- X3 BrushStrokes$Stroke.removeAll()V
abbrev rX3_removeAll : Room := { frames := 0, cells := 0, slots := 0, locals := 0 }
theorem fl_X3_removeAll_15 : (Cond.fieldLink RX3 15 "BrushStrokes$Stroke" "size" "I") ∈ wsX3_removeAll := by decide +kernel
theorem fl_X3_removeAll_19 : (Cond.fieldLink RX3 19 "BrushStrokes$Stroke" "kept" "I") ∈ wsX3_removeAll := by decide +kernel
theorem in_X3_removeAll_X3 : ∀ w ∈ u_ws RX3 TX3 3, w ∈ wsX3_removeAll := by decide +kernel
noncomputable def fX3_removeAll (u : SS) : Option (SS) := some (S_s_kept (S_s_size u 0) 0)
set_option maxRecDepth 100000 in
set_option maxHeartbeats 4000000 in
theorem kX3_removeAll (l : Launch) (g : kG) (a : Nat → Nat) (u : SS) (o1 : SS) (hm : fX3_removeAll u = some o1) : KM l yX3_removeAll wsX3_removeAll rX3_removeAll g [.ref (a 0)] (wS g a u) none (wS g a o1) 0 0 := by
  refine KM.of (nL := 1) (by decide) rfl (Nat.le_of_ble_eq_true rfl) ?_
  intro p e s m args below meth c A ls C X hl
  have C : CT g p s m args meth c RX3 cX3_removeAll 1 none wsX3_removeAll A := C
  have hx := C.1
  have hb := C.2.1
  have hl : lv_has ls 1 [(0, .ref (a 0))] := hl
  have hinX3 := in_X3_removeAll_X3
  have hf15 := C.2.2.2.2.2.1 _ fl_X3_removeAll_15
  have hf19 := C.2.2.2.2.2.1 _ fl_X3_removeAll_19
  rw [fX3_removeAll] at hm
  refine lv_aload_n hx hb dX3_removeAll_0 rfl (lv_at hl 0 rfl) ?_
  refine lv_iconst (v := 0) hx hb dX3_removeAll_1 (by decide) ?_
  refine kput C X 0 (ci := 3) rfl rfl hinX3 tyX3_ok nmX3 1 (by decide) hf15 rfl (ty := .int) (v := .int 0) rfl rfl rfl (Nat.le_of_ble_eq_true rfl) (w2 := wS g a (S_s_size u 0)) rfl dX3_removeAll_2 (fun H locs X => ?_)
  refine lv_aload_n hx hb dX3_removeAll_5 rfl (lv_at hl 0 rfl) ?_
  refine lv_iconst (v := 0) hx hb dX3_removeAll_6 (by decide) ?_
  refine kput C X 0 (ci := 3) rfl rfl hinX3 tyX3_ok nmX3 2 (by decide) hf19 rfl (ty := .int) (v := .int 0) rfl rfl rfl (Nat.le_of_ble_eq_true rfl) (w2 := wS g a (S_s_kept (S_s_size u 0) 0)) rfl dX3_removeAll_7 (fun H locs X => ?_)
  cases sm hm
  exact kvret C X dX3_removeAll_10
-- X3 BrushStrokes$Stroke.putPoint(IIII)V
abbrev rX3_putPoint : Room := { frames := 0, cells := 0, slots := 0, locals := 0 }
theorem fl_X3_putPoint_11 : (Cond.fieldLink RX3 11 "BrushStrokes$Stroke" "numbers" "[I") ∈ wsX3_putPoint := by decide +kernel
theorem in_X3_putPoint_X3 : ∀ w ∈ u_ws RX3 TX3 3, w ∈ wsX3_putPoint := by decide +kernel
noncomputable def fX3_putPoint (p1 : Int32) (p2 : Int32) (p3 : Int32) (p4 : Int32) (u : SS) : Option (SS) := (if (3 * p1) < 0 then (some u) else (if (72 - 2) ≤ (3 * p1) then (some u) else (gd (inb (3 * p1) 72) (gd (inb ((3 * p1) + 1) 72) (gd (inb ((3 * p1) + 2) 72) (some (S_s_numbers (S_s_numbers (S_s_numbers u (upd (S_numbers u) (3 * p1).toNatClampNeg p2)) (upd (S_numbers (S_s_numbers u (upd (S_numbers u) (3 * p1).toNatClampNeg p2))) ((3 * p1) + 1).toNatClampNeg p3)) (upd (S_numbers (S_s_numbers (S_s_numbers u (upd (S_numbers u) (3 * p1).toNatClampNeg p2)) (upd (S_numbers (S_s_numbers u (upd (S_numbers u) (3 * p1).toNatClampNeg p2))) ((3 * p1) + 1).toNatClampNeg p3))) ((3 * p1) + 2).toNatClampNeg p4)))))))).bind fun u1 => some u1
set_option maxRecDepth 100000 in
set_option maxHeartbeats 4000000 in
theorem kX3_putPoint (l : Launch) (g : kG) (a : Nat → Nat) (p1 : Int32) (p2 : Int32) (p3 : Int32) (p4 : Int32) (u : SS) (o1 : SS) (hm : fX3_putPoint p1 p2 p3 p4 u = some o1) : KM l yX3_putPoint wsX3_putPoint rX3_putPoint g [.ref (a 0), .int p1, .int p2, .int p3, .int p4] (wS g a u) none (wS g a o1) 0 0 := by
  refine KM.of (nL := 6) (by decide) rfl (Nat.le_of_ble_eq_true rfl) ?_
  intro p e s m args below meth c A ls C X hl
  have C : CT g p s m args meth c RX3 cX3_putPoint 6 none wsX3_putPoint A := C
  have hx := C.1
  have hb := C.2.1
  have hl : lv_has ls 6 [(0, .ref (a 0)), (1, .int p1), (2, .int p2), (3, .int p3), (4, .int p4)] := hl
  have hinX3 := in_X3_putPoint_X3
  have hf11 := C.2.2.2.2.2.1 _ fl_X3_putPoint_11
  rw [fX3_putPoint] at hm
  refine lv_iconst (v := 3) hx hb dX3_putPoint_0 (by decide) ?_
  refine lv_iload_n hx hb dX3_putPoint_1 rfl (lv_at hl 1 rfl) ?_
  refine lv_imul hx hb dX3_putPoint_2 ?_
  refine lv_istore (lv' := [(5, .int (3 * p1)), (0, .ref (a 0)), (1, .int p1), (2, .int p2), (3, .int p3), (4, .int p4)]) hx hb dX3_putPoint_3 hl (by decide) rfl (fun ls hl => ?_)
  refine lv_iload hx hb dX3_putPoint_5 (lv_at hl 0 rfl) ?_
  obtain ⟨u1, hE, hm⟩ := bnd hm
  have K : ∀ (H : Heap) (locs : List Loc) (ls : Array Slot), ST g A s H locs (wS g a u1) → lv_has ls 6 [] → W p l e rX3_putPoint s m args below meth c H locs 0 0 (kEnd g below args s none (wS g a o1) A 0 0) (F0 m 51 ls []) := by
    intro H locs ls X hl
    clear hE
    cases sm hm
    exact kvret C X dX3_putPoint_51
  clear hm
  have hm := hE
  clear hE
  refine lv_if_lt (tgt := 51) hx hb dX3_putPoint_7 (by decide) (fun hc => ?_) (fun hc => ?_)
  · have hm := ifp hc hm
    cases sm hm
    exact K _ _ _ X (lv_sub hl [] rfl)
  · have hm := ifn hc hm
    refine lv_iload hx hb dX3_putPoint_10 (lv_at hl 0 rfl) ?_
    refine lv_aload_n hx hb dX3_putPoint_12 rfl (lv_at hl 1 rfl) ?_
    refine kget C X 0 (ci := 3) rfl rfl hinX3 0 (by decide) hf11 (v := .ref (a 1)) rfl dX3_putPoint_13 ?_
    refine kalen C X 1 rfl (v := 72) rfl dX3_putPoint_16 ?_
    refine lv_iconst (v := 2) hx hb dX3_putPoint_17 (by decide) ?_
    refine lv_isub hx hb dX3_putPoint_18 ?_
    refine lv_icmp_ge (tgt := 51) hx hb dX3_putPoint_19 (by decide) (fun hc => ?_) (fun hc => ?_)
    · have hm := ifp hc hm
      cases sm hm
      exact K _ _ _ X (lv_sub hl [] rfl)
    · have hm := ifn hc hm
      refine lv_aload_n hx hb dX3_putPoint_22 rfl (lv_at hl 1 rfl) ?_
      refine kget C X 0 (ci := 3) rfl rfl hinX3 0 (by decide) hf11 (v := .ref (a 1)) rfl dX3_putPoint_23 ?_
      refine lv_iload hx hb dX3_putPoint_26 (lv_at hl 0 rfl) ?_
      refine lv_iload_n hx hb dX3_putPoint_28 rfl (lv_at hl 3 rfl) ?_
      obtain ⟨hgi, hm⟩ := gd_t hm
      refine kiast C X 1 rfl hgi (w2 := wS g a (S_s_numbers u (upd (S_numbers u) (3 * p1).toNatClampNeg p2))) rfl dX3_putPoint_29 (fun H locs X => ?_)
      refine lv_aload_n hx hb dX3_putPoint_30 rfl (lv_at hl 1 rfl) ?_
      refine kget C X 0 (ci := 3) rfl rfl hinX3 0 (by decide) hf11 (v := .ref (a 1)) rfl dX3_putPoint_31 ?_
      refine lv_iload hx hb dX3_putPoint_34 (lv_at hl 0 rfl) ?_
      refine lv_iconst (v := 1) hx hb dX3_putPoint_36 (by decide) ?_
      refine lv_iadd hx hb dX3_putPoint_37 ?_
      refine lv_iload_n hx hb dX3_putPoint_38 rfl (lv_at hl 4 rfl) ?_
      obtain ⟨hgi, hm⟩ := gd_t hm
      refine kiast C X 1 rfl hgi (w2 := wS g a (S_s_numbers (S_s_numbers u (upd (S_numbers u) (3 * p1).toNatClampNeg p2)) (upd (S_numbers (S_s_numbers u (upd (S_numbers u) (3 * p1).toNatClampNeg p2))) ((3 * p1) + 1).toNatClampNeg p3))) rfl dX3_putPoint_39 (fun H locs X => ?_)
      refine lv_aload_n hx hb dX3_putPoint_40 rfl (lv_at hl 1 rfl) ?_
      refine kget C X 0 (ci := 3) rfl rfl hinX3 0 (by decide) hf11 (v := .ref (a 1)) rfl dX3_putPoint_41 ?_
      refine lv_iload hx hb dX3_putPoint_44 (lv_at hl 0 rfl) ?_
      refine lv_iconst (v := 2) hx hb dX3_putPoint_46 (by decide) ?_
      refine lv_iadd hx hb dX3_putPoint_47 ?_
      refine lv_iload hx hb dX3_putPoint_48 (lv_at hl 5 rfl) ?_
      obtain ⟨hgi, hm⟩ := gd_t hm
      refine kiast C X 1 rfl hgi (w2 := wS g a (S_s_numbers (S_s_numbers (S_s_numbers u (upd (S_numbers u) (3 * p1).toNatClampNeg p2)) (upd (S_numbers (S_s_numbers u (upd (S_numbers u) (3 * p1).toNatClampNeg p2))) ((3 * p1) + 1).toNatClampNeg p3)) (upd (S_numbers (S_s_numbers (S_s_numbers u (upd (S_numbers u) (3 * p1).toNatClampNeg p2)) (upd (S_numbers (S_s_numbers u (upd (S_numbers u) (3 * p1).toNatClampNeg p2))) ((3 * p1) + 1).toNatClampNeg p3))) ((3 * p1) + 2).toNatClampNeg p4))) rfl dX3_putPoint_50 (fun H locs X => ?_)
      cases sm hm
      exact K _ _ _ X (lv_sub hl [] rfl)
-- X3 BrushStrokes$Stroke.addPoint(III)V
abbrev rX3_addPoint : Room := { frames := 1, cells := 0, slots := 0, locals := 25 }
theorem fl_X3_addPoint_15 : (Cond.fieldLink RX3 15 "BrushStrokes$Stroke" "size" "I") ∈ wsX3_addPoint := by decide +kernel
theorem in_X3_addPoint_X3 : ∀ w ∈ u_ws RX3 TX3 3, w ∈ wsX3_addPoint := by decide +kernel
theorem cw_X3_addPoint_X3_putPoint_36 {p : Program} {s : State} {m : MethodId} {args : Array Value} {meth : Method} {c : Code} {g : kG} {A : Nat → Prop} (C : CT g p s m args meth c RX3 cX3_addPoint 4 none wsX3_addPoint A) : CallW rX3_addPoint s args RX3 RX3 36 yX3_putPoint cX3_putPoint 6 none wsX3_putPoint rX3_putPoint 0 0 4 := cwV 4 C.2.2.2.2.2.1 gX3_addPoint_X3_putPoint rfl rfl rfl (by decide +kernel) ⟨Nat.le_of_ble_eq_true rfl, Nat.le_of_ble_eq_true rfl⟩
theorem cw_X3_addPoint_X3_keepAll_40 {p : Program} {s : State} {m : MethodId} {args : Array Value} {meth : Method} {c : Code} {g : kG} {A : Nat → Prop} (C : CT g p s m args meth c RX3 cX3_addPoint 4 none wsX3_addPoint A) : CallW rX3_addPoint s args RX3 RX3 40 yX3_keepAll cX3_keepAll 1 none wsX3_keepAll rX3_keepAll 0 0 0 := cwV 0 C.2.2.2.2.2.1 gX3_addPoint_X3_keepAll rfl rfl rfl (by decide +kernel) ⟨Nat.le_of_ble_eq_true rfl, Nat.le_of_ble_eq_true rfl⟩
noncomputable def fX3_addPoint (p1 : Int32) (p2 : Int32) (p3 : Int32) (u : SS) : Option (SS) := (if 24 ≤ (S_size u) then (some u) else ((fX3_putPoint (S_size u) p1 p2 p3 u).bind fun u4 => (fX3_keepAll (S_s_size u4 ((S_size u4) + 1))).bind fun u5 => some u5)).bind fun u3 => some u3
set_option maxRecDepth 100000 in
set_option maxHeartbeats 4000000 in
theorem kX3_addPoint (l : Launch) (g : kG) (a : Nat → Nat) (p1 : Int32) (p2 : Int32) (p3 : Int32) (u : SS) (o1 : SS) (hm : fX3_addPoint p1 p2 p3 u = some o1) : KM l yX3_addPoint wsX3_addPoint rX3_addPoint g [.ref (a 0), .int p1, .int p2, .int p3] (wS g a u) none (wS g a o1) 0 0 := by
  refine KM.of (nL := 4) (by decide) rfl (Nat.le_of_ble_eq_true rfl) ?_
  intro p e s m args below meth c A ls C X hl
  have C : CT g p s m args meth c RX3 cX3_addPoint 4 none wsX3_addPoint A := C
  have hx := C.1
  have hb := C.2.1
  have hl : lv_has ls 4 [(0, .ref (a 0)), (1, .int p1), (2, .int p2), (3, .int p3)] := hl
  have hinX3 := in_X3_addPoint_X3
  have hf15 := C.2.2.2.2.2.1 _ fl_X3_addPoint_15
  rw [fX3_addPoint] at hm
  refine lv_aload_n hx hb dX3_addPoint_0 rfl (lv_at hl 0 rfl) ?_
  refine kget C X 0 (ci := 3) rfl rfl hinX3 1 (by decide) hf15 (v := .int (S_size u)) rfl dX3_addPoint_1 ?_
  refine lv_bipush (v := 24) hx hb dX3_addPoint_4 (by decide) ?_
  obtain ⟨u3, hE, hm⟩ := bnd hm
  have K : ∀ (H : Heap) (locs : List Loc) (ls : Array Slot), ST g A s H locs (wS g a u3) → lv_has ls 4 [] → W p l e rX3_addPoint s m args below meth c H locs 0 0 (kEnd g below args s none (wS g a o1) A 0 0) (F0 m 34 ls []) := by
    intro H locs ls X hl
    clear hE
    cases sm hm
    exact kvret C X dX3_addPoint_34
  clear hm
  have hm := hE
  clear hE
  refine lv_icmp_ge (tgt := 34) hx hb dX3_addPoint_6 (by decide) (fun hc => ?_) (fun hc => ?_)
  · have hm := ifp hc hm
    cases sm hm
    exact K _ _ _ X (lv_sub hl [] rfl)
  · have hm := ifn hc hm
    refine lv_aload_n hx hb dX3_addPoint_9 rfl (lv_at hl 0 rfl) ?_
    refine lv_aload_n hx hb dX3_addPoint_10 rfl (lv_at hl 0 rfl) ?_
    refine kget C X 0 (ci := 3) rfl rfl hinX3 1 (by decide) hf15 (v := .int (S_size u)) rfl dX3_addPoint_11 ?_
    refine lv_iload_n hx hb dX3_addPoint_14 rfl (lv_at hl 1 rfl) ?_
    refine lv_iload_n hx hb dX3_addPoint_15 rfl (lv_at hl 2 rfl) ?_
    refine lv_iload_n hx hb dX3_addPoint_16 rfl (lv_at hl 3 rfl) ?_
    obtain ⟨u4, hcl, hm⟩ := bnd hm
    refine kVW C X (kX3_putPoint l g a (S_size u) p1 p2 p3 u u4 hcl) (cw_X3_addPoint_X3_putPoint_36 C) 0 (ci := 3) rfl rfl (As := [.int (S_size u), .int p1, .int p2, .int p3]) rfl hl (rest := []) rfl (Nat.le_of_ble_eq_true rfl) (st2 := []) rfl dX3_addPoint_17 ⟨Nat.le_of_ble_eq_true rfl, Nat.le_of_ble_eq_true rfl⟩ (fun H locs X => ?_)
    clear hcl
    refine lv_aload_n hx hb dX3_addPoint_20 rfl (lv_at hl 0 rfl) ?_
    refine lv_dup hx hb dX3_addPoint_21 rfl ?_
    refine kget C X 0 (ci := 3) rfl rfl hinX3 1 (by decide) hf15 (v := .int (S_size u4)) rfl dX3_addPoint_22 ?_
    refine lv_iconst (v := 1) hx hb dX3_addPoint_25 (by decide) ?_
    refine lv_iadd hx hb dX3_addPoint_26 ?_
    refine kput C X 0 (ci := 3) rfl rfl hinX3 tyX3_ok nmX3 1 (by decide) hf15 rfl (ty := .int) (v := .int ((S_size u4) + 1)) rfl rfl rfl (Nat.le_of_ble_eq_true rfl) (w2 := wS g a (S_s_size u4 ((S_size u4) + 1))) rfl dX3_addPoint_27 (fun H locs X => ?_)
    refine lv_aload_n hx hb dX3_addPoint_30 rfl (lv_at hl 0 rfl) ?_
    obtain ⟨u5, hcl, hm⟩ := bnd hm
    refine kVW C X (kX3_keepAll l g a (S_s_size u4 ((S_size u4) + 1)) u5 hcl) (cw_X3_addPoint_X3_keepAll_40 C) 0 (ci := 3) rfl rfl (As := []) rfl hl (rest := []) rfl (Nat.le_of_ble_eq_true rfl) (st2 := []) rfl dX3_addPoint_31 ⟨Nat.le_of_ble_eq_true rfl, Nat.le_of_ble_eq_true rfl⟩ (fun H locs X => ?_)
    clear hcl
    cases sm hm
    exact K _ _ _ X (lv_sub hl [] rfl)
-- X3 BrushStrokes$Stroke.insertPoint(IIII)V
abbrev rX3_insertPoint : Room := { frames := 1, cells := 0, slots := 0, locals := 25 }
theorem fl_X3_insertPoint_15 : (Cond.fieldLink RX3 15 "BrushStrokes$Stroke" "size" "I") ∈ wsX3_insertPoint := by decide +kernel
theorem in_X3_insertPoint_X3 : ∀ w ∈ u_ws RX3 TX3 3, w ∈ wsX3_insertPoint := by decide +kernel
theorem cw_X3_insertPoint_X3_x_43 {p : Program} {s : State} {m : MethodId} {args : Array Value} {meth : Method} {c : Code} {g : kG} {A : Nat → Prop} (C : CT g p s m args meth c RX3 cX3_insertPoint 6 none wsX3_insertPoint A) : CallW rX3_insertPoint s args RX3 RX3 43 yX3_x cX3_x 3 (some .int) wsX3_x rX3_x 0 0 1 := cwV 1 C.2.2.2.2.2.1 gX3_insertPoint_X3_x rfl rfl rfl (by decide +kernel) ⟨Nat.le_of_ble_eq_true rfl, Nat.le_of_ble_eq_true rfl⟩
theorem cw_X3_insertPoint_X3_y_46 {p : Program} {s : State} {m : MethodId} {args : Array Value} {meth : Method} {c : Code} {g : kG} {A : Nat → Prop} (C : CT g p s m args meth c RX3 cX3_insertPoint 6 none wsX3_insertPoint A) : CallW rX3_insertPoint s args RX3 RX3 46 yX3_y cX3_y 3 (some .int) wsX3_y rX3_y 0 0 1 := cwV 1 C.2.2.2.2.2.1 gX3_insertPoint_X3_y rfl rfl rfl (by decide +kernel) ⟨Nat.le_of_ble_eq_true rfl, Nat.le_of_ble_eq_true rfl⟩
theorem cw_X3_insertPoint_X3_width_49 {p : Program} {s : State} {m : MethodId} {args : Array Value} {meth : Method} {c : Code} {g : kG} {A : Nat → Prop} (C : CT g p s m args meth c RX3 cX3_insertPoint 6 none wsX3_insertPoint A) : CallW rX3_insertPoint s args RX3 RX3 49 yX3_width cX3_width 3 (some .int) wsX3_width rX3_width 0 0 1 := cwV 1 C.2.2.2.2.2.1 gX3_insertPoint_X3_width rfl rfl rfl (by decide +kernel) ⟨Nat.le_of_ble_eq_true rfl, Nat.le_of_ble_eq_true rfl⟩
theorem cw_X3_insertPoint_X3_putPoint_36 {p : Program} {s : State} {m : MethodId} {args : Array Value} {meth : Method} {c : Code} {g : kG} {A : Nat → Prop} (C : CT g p s m args meth c RX3 cX3_insertPoint 6 none wsX3_insertPoint A) : CallW rX3_insertPoint s args RX3 RX3 36 yX3_putPoint cX3_putPoint 6 none wsX3_putPoint rX3_putPoint 0 0 4 := cwV 4 C.2.2.2.2.2.1 gX3_insertPoint_X3_putPoint rfl rfl rfl (by decide +kernel) ⟨Nat.le_of_ble_eq_true rfl, Nat.le_of_ble_eq_true rfl⟩
theorem cw_X3_insertPoint_X3_keepAll_40 {p : Program} {s : State} {m : MethodId} {args : Array Value} {meth : Method} {c : Code} {g : kG} {A : Nat → Prop} (C : CT g p s m args meth c RX3 cX3_insertPoint 6 none wsX3_insertPoint A) : CallW rX3_insertPoint s args RX3 RX3 40 yX3_keepAll cX3_keepAll 1 none wsX3_keepAll rX3_keepAll 0 0 0 := cwV 0 C.2.2.2.2.2.1 gX3_insertPoint_X3_keepAll rfl rfl rfl (by decide +kernel) ⟨Nat.le_of_ble_eq_true rfl, Nat.le_of_ble_eq_true rfl⟩
noncomputable def bX3_insertPoint_16 (c1 : Int32) : Int32 × SS → Option ((Int32 × SS) ⊕ (SS))
  | (x5, u6) => if x5 ≤ c1 then (some (.inr u6)) else ((fX3_x (x5 - 1) u6).bind fun r8 => (fX3_y (x5 - 1) u6).bind fun r9 => (fX3_width (x5 - 1) u6).bind fun r10 => (fX3_putPoint x5 r8 r9 r10 u6).bind fun u11 => some (.inl (x5 + (-1), u11)))
noncomputable def lX3_insertPoint_16 (c1 : Int32) (x5 : Int32) (u6 : SS) : Option (SS) := lp (bX3_insertPoint_16 c1) (x5, u6)
theorem lX3_insertPoint_16_eq (c1 : Int32) (x5 : Int32) (u6 : SS) : lX3_insertPoint_16 c1 x5 u6 = (if x5 ≤ c1 then (some (.inr u6)) else ((fX3_x (x5 - 1) u6).bind fun r8 => (fX3_y (x5 - 1) u6).bind fun r9 => (fX3_width (x5 - 1) u6).bind fun r10 => (fX3_putPoint x5 r8 r9 r10 u6).bind fun u11 => some (.inl (x5 + (-1), u11)))).bind fun r => Sum.elim (fun z => lX3_insertPoint_16 c1 z.1 z.2) (fun r => some r) r := lp_eq (bX3_insertPoint_16 c1) (x5, u6)
set_option maxRecDepth 100000 in
set_option maxHeartbeats 4000000 in
theorem tX3_insertPoint_16 {p : Program} {l : Launch} {e : Env} {s : State} {m : MethodId} {args : Array Value} {below : List Frame} {meth : Method} {c : Code} {g : kG} {A : Nat → Prop} {Q : State → Prop} (a : Nat → Nat) (C : CT g p s m args meth c RX3 cX3_insertPoint 6 none wsX3_insertPoint A) (c1 : Int32) (c2 : Int32) (c3 : Int32) (c4 : Int32) (u7 : SS) (kk : ∀ (H : Heap) (locs : List Loc) (ls : Array Slot), ST g A s H locs (wS g a u7) → lv_has ls 6 [(0, .ref (a 0)), (1, .int c1), (2, .int c2), (3, .int c3), (4, .int c4)] → W p l e rX3_insertPoint s m args below meth c H locs 0 0 Q (F0 m 58 ls [])) : ∀ (n : Nat) (x5 : Int32) (u6 : SS), whl (bX3_insertPoint_16 c1) n (x5, u6) = some u7 → ∀ (H : Heap) (locs : List Loc) (ls : Array Slot), ST g A s H locs (wS g a u6) → lv_has ls 6 [(0, .ref (a 0)), (1, .int c1), (2, .int c2), (3, .int c3), (4, .int c4), (5, .int x5)] → W p l e rX3_insertPoint s m args below meth c H locs 0 0 Q (F0 m 16 ls []) := by
  have hx := C.1
  have hb := C.2.1
  intro n
  induction n with
  | zero =>
    intro x5 u6 hm
    cases hm
  | succ n ih =>
    intro x5 u6 hm H locs ls X hl
    rw [whl] at hm
    obtain ⟨q, hq, hm2⟩ := bnd hm
    clear hm
    have hm := hq
    clear hq
    rw [bX3_insertPoint_16] at hm
    refine lv_iload hx hb dX3_insertPoint_16 (lv_at hl 5 rfl) ?_
    refine lv_iload_n hx hb dX3_insertPoint_18 rfl (lv_at hl 1 rfl) ?_
    refine lv_icmp_le (tgt := 58) hx hb dX3_insertPoint_19 (by decide) (fun hc => ?_) (fun hc => ?_)
    · have hm := ifp hc hm
      cases sm hm
      cases sm hm2
      exact kk _ _ _ X (lv_sub hl [0, 1, 2, 3, 4] rfl)
    · have hm := ifn hc hm
      refine lv_aload_n hx hb dX3_insertPoint_22 rfl (lv_at hl 0 rfl) ?_
      refine lv_iload hx hb dX3_insertPoint_23 (lv_at hl 5 rfl) ?_
      refine lv_aload_n hx hb dX3_insertPoint_25 rfl (lv_at hl 0 rfl) ?_
      refine lv_iload hx hb dX3_insertPoint_26 (lv_at hl 5 rfl) ?_
      refine lv_iconst (v := 1) hx hb dX3_insertPoint_28 (by decide) ?_
      refine lv_isub hx hb dX3_insertPoint_29 ?_
      obtain ⟨r8, hcl, hm⟩ := bnd hm
      refine kVW C X (kX3_x l g a (x5 - 1) u6 r8 hcl) (cw_X3_insertPoint_X3_x_43 C) 0 (ci := 3) rfl rfl (As := [.int (x5 - 1)]) rfl hl (rest := [.int x5, .ref (a 0)]) rfl (Nat.le_of_ble_eq_true rfl) (st2 := [.int r8, .int x5, .ref (a 0)]) rfl dX3_insertPoint_30 ⟨Nat.le_of_ble_eq_true rfl, Nat.le_of_ble_eq_true rfl⟩ (fun H locs X => ?_)
      clear hcl
      refine lv_aload_n hx hb dX3_insertPoint_33 rfl (lv_at hl 0 rfl) ?_
      refine lv_iload hx hb dX3_insertPoint_34 (lv_at hl 5 rfl) ?_
      refine lv_iconst (v := 1) hx hb dX3_insertPoint_36 (by decide) ?_
      refine lv_isub hx hb dX3_insertPoint_37 ?_
      obtain ⟨r9, hcl, hm⟩ := bnd hm
      refine kVW C X (kX3_y l g a (x5 - 1) u6 r9 hcl) (cw_X3_insertPoint_X3_y_46 C) 0 (ci := 3) rfl rfl (As := [.int (x5 - 1)]) rfl hl (rest := [.int r8, .int x5, .ref (a 0)]) rfl (Nat.le_of_ble_eq_true rfl) (st2 := [.int r9, .int r8, .int x5, .ref (a 0)]) rfl dX3_insertPoint_38 ⟨Nat.le_of_ble_eq_true rfl, Nat.le_of_ble_eq_true rfl⟩ (fun H locs X => ?_)
      clear hcl
      refine lv_aload_n hx hb dX3_insertPoint_41 rfl (lv_at hl 0 rfl) ?_
      refine lv_iload hx hb dX3_insertPoint_42 (lv_at hl 5 rfl) ?_
      refine lv_iconst (v := 1) hx hb dX3_insertPoint_44 (by decide) ?_
      refine lv_isub hx hb dX3_insertPoint_45 ?_
      obtain ⟨r10, hcl, hm⟩ := bnd hm
      refine kVW C X (kX3_width l g a (x5 - 1) u6 r10 hcl) (cw_X3_insertPoint_X3_width_49 C) 0 (ci := 3) rfl rfl (As := [.int (x5 - 1)]) rfl hl (rest := [.int r9, .int r8, .int x5, .ref (a 0)]) rfl (Nat.le_of_ble_eq_true rfl) (st2 := [.int r10, .int r9, .int r8, .int x5, .ref (a 0)]) rfl dX3_insertPoint_46 ⟨Nat.le_of_ble_eq_true rfl, Nat.le_of_ble_eq_true rfl⟩ (fun H locs X => ?_)
      clear hcl
      obtain ⟨u11, hcl, hm⟩ := bnd hm
      refine kVW C X (kX3_putPoint l g a x5 r8 r9 r10 u6 u11 hcl) (cw_X3_insertPoint_X3_putPoint_36 C) 0 (ci := 3) rfl rfl (As := [.int x5, .int r8, .int r9, .int r10]) rfl hl (rest := []) rfl (Nat.le_of_ble_eq_true rfl) (st2 := []) rfl dX3_insertPoint_49 ⟨Nat.le_of_ble_eq_true rfl, Nat.le_of_ble_eq_true rfl⟩ (fun H locs X => ?_)
      clear hcl
      refine lv_iinc (v := x5 + (-1)) (lv' := [(5, .int (x5 + (-1))), (0, .ref (a 0)), (1, .int c1), (2, .int c2), (3, .int c3), (4, .int c4)]) hx hb dX3_insertPoint_52 hl (k := 5) rfl rfl (by decide) rfl (fun ls hl => ?_)
      refine lv_goto (tgt := 16) hx hb dX3_insertPoint_55 (by decide) ?_
      cases sm hm
      exact ih _ _ hm2 _ _ _ X (lv_sub hl [1, 2, 3, 4, 5, 0] rfl)
noncomputable def fX3_insertPoint (p1 : Int32) (p2 : Int32) (p3 : Int32) (p4 : Int32) (u : SS) : Option (SS) := if (S_size u) < 24 then ((lX3_insertPoint_16 p1 (S_size u) u).bind fun u12 => (fX3_putPoint p1 p2 p3 p4 u12).bind fun u13 => (fX3_keepAll (S_s_size u13 ((S_size u13) + 1))).bind fun u14 => some u14) else (some u)
set_option maxRecDepth 100000 in
set_option maxHeartbeats 4000000 in
theorem kX3_insertPoint (l : Launch) (g : kG) (a : Nat → Nat) (p1 : Int32) (p2 : Int32) (p3 : Int32) (p4 : Int32) (u : SS) (o1 : SS) (hm : fX3_insertPoint p1 p2 p3 p4 u = some o1) : KM l yX3_insertPoint wsX3_insertPoint rX3_insertPoint g [.ref (a 0), .int p1, .int p2, .int p3, .int p4] (wS g a u) none (wS g a o1) 0 0 := by
  refine KM.of (nL := 6) (by decide) rfl (Nat.le_of_ble_eq_true rfl) ?_
  intro p e s m args below meth c A ls C X hl
  have C : CT g p s m args meth c RX3 cX3_insertPoint 6 none wsX3_insertPoint A := C
  have hx := C.1
  have hb := C.2.1
  have hl : lv_has ls 6 [(0, .ref (a 0)), (1, .int p1), (2, .int p2), (3, .int p3), (4, .int p4)] := hl
  have hinX3 := in_X3_insertPoint_X3
  have hf15 := C.2.2.2.2.2.1 _ fl_X3_insertPoint_15
  rw [fX3_insertPoint] at hm
  refine lv_aload_n hx hb dX3_insertPoint_0 rfl (lv_at hl 0 rfl) ?_
  refine kget C X 0 (ci := 3) rfl rfl hinX3 1 (by decide) hf15 (v := .int (S_size u)) rfl dX3_insertPoint_1 ?_
  refine lv_bipush (v := 24) hx hb dX3_insertPoint_4 (by decide) ?_
  refine lv_icmp_lt (tgt := 10) hx hb dX3_insertPoint_6 (by decide) (fun hc => ?_) (fun hc => ?_)
  · have hm := ifp hc hm
    refine lv_aload_n hx hb dX3_insertPoint_10 rfl (lv_at hl 0 rfl) ?_
    refine kget C X 0 (ci := 3) rfl rfl hinX3 1 (by decide) hf15 (v := .int (S_size u)) rfl dX3_insertPoint_11 ?_
    refine lv_istore (lv' := [(5, .int (S_size u)), (0, .ref (a 0)), (1, .int p1), (2, .int p2), (3, .int p3), (4, .int p4)]) hx hb dX3_insertPoint_14 hl (by decide) rfl (fun ls hl => ?_)
    obtain ⟨u12, hL, hm⟩ := bnd hm
    obtain ⟨nn, hn⟩ := lp_run hL
    refine tX3_insertPoint_16 a C p1 p2 p3 p4 u12 (fun H locs ls X hl => ?_) nn _ _ hn _ _ _ X (lv_sub hl [1, 2, 3, 4, 5, 0] rfl)
    clear hL hn
    refine lv_aload_n hx hb dX3_insertPoint_58 rfl (lv_at hl 0 rfl) ?_
    refine lv_iload_n hx hb dX3_insertPoint_59 rfl (lv_at hl 1 rfl) ?_
    refine lv_iload_n hx hb dX3_insertPoint_60 rfl (lv_at hl 2 rfl) ?_
    refine lv_iload_n hx hb dX3_insertPoint_61 rfl (lv_at hl 3 rfl) ?_
    refine lv_iload hx hb dX3_insertPoint_62 (lv_at hl 4 rfl) ?_
    obtain ⟨u13, hcl, hm⟩ := bnd hm
    refine kVW C X (kX3_putPoint l g a p1 p2 p3 p4 u12 u13 hcl) (cw_X3_insertPoint_X3_putPoint_36 C) 0 (ci := 3) rfl rfl (As := [.int p1, .int p2, .int p3, .int p4]) rfl hl (rest := []) rfl (Nat.le_of_ble_eq_true rfl) (st2 := []) rfl dX3_insertPoint_64 ⟨Nat.le_of_ble_eq_true rfl, Nat.le_of_ble_eq_true rfl⟩ (fun H locs X => ?_)
    clear hcl
    refine lv_aload_n hx hb dX3_insertPoint_67 rfl (lv_at hl 0 rfl) ?_
    refine lv_dup hx hb dX3_insertPoint_68 rfl ?_
    refine kget C X 0 (ci := 3) rfl rfl hinX3 1 (by decide) hf15 (v := .int (S_size u13)) rfl dX3_insertPoint_69 ?_
    refine lv_iconst (v := 1) hx hb dX3_insertPoint_72 (by decide) ?_
    refine lv_iadd hx hb dX3_insertPoint_73 ?_
    refine kput C X 0 (ci := 3) rfl rfl hinX3 tyX3_ok nmX3 1 (by decide) hf15 rfl (ty := .int) (v := .int ((S_size u13) + 1)) rfl rfl rfl (Nat.le_of_ble_eq_true rfl) (w2 := wS g a (S_s_size u13 ((S_size u13) + 1))) rfl dX3_insertPoint_74 (fun H locs X => ?_)
    refine lv_aload_n hx hb dX3_insertPoint_77 rfl (lv_at hl 0 rfl) ?_
    obtain ⟨u14, hcl, hm⟩ := bnd hm
    refine kVW C X (kX3_keepAll l g a (S_s_size u13 ((S_size u13) + 1)) u14 hcl) (cw_X3_insertPoint_X3_keepAll_40 C) 0 (ci := 3) rfl rfl (As := []) rfl hl (rest := []) rfl (Nat.le_of_ble_eq_true rfl) (st2 := []) rfl dX3_insertPoint_78 ⟨Nat.le_of_ble_eq_true rfl, Nat.le_of_ble_eq_true rfl⟩ (fun H locs X => ?_)
    clear hcl
    cases sm hm
    exact kvret C X dX3_insertPoint_81
  · have hm := ifn hc hm
    cases sm hm
    exact kvret C X dX3_insertPoint_9
-- X3 BrushStrokes$Stroke.removePoint(I)V
abbrev rX3_removePoint : Room := { frames := 1, cells := 0, slots := 0, locals := 25 }
theorem fl_X3_removePoint_15 : (Cond.fieldLink RX3 15 "BrushStrokes$Stroke" "size" "I") ∈ wsX3_removePoint := by decide +kernel
theorem in_X3_removePoint_X3 : ∀ w ∈ u_ws RX3 TX3 3, w ∈ wsX3_removePoint := by decide +kernel
theorem cw_X3_removePoint_X3_x_43 {p : Program} {s : State} {m : MethodId} {args : Array Value} {meth : Method} {c : Code} {g : kG} {A : Nat → Prop} (C : CT g p s m args meth c RX3 cX3_removePoint 3 none wsX3_removePoint A) : CallW rX3_removePoint s args RX3 RX3 43 yX3_x cX3_x 3 (some .int) wsX3_x rX3_x 0 0 1 := cwV 1 C.2.2.2.2.2.1 gX3_removePoint_X3_x rfl rfl rfl (by decide +kernel) ⟨Nat.le_of_ble_eq_true rfl, Nat.le_of_ble_eq_true rfl⟩
theorem cw_X3_removePoint_X3_y_46 {p : Program} {s : State} {m : MethodId} {args : Array Value} {meth : Method} {c : Code} {g : kG} {A : Nat → Prop} (C : CT g p s m args meth c RX3 cX3_removePoint 3 none wsX3_removePoint A) : CallW rX3_removePoint s args RX3 RX3 46 yX3_y cX3_y 3 (some .int) wsX3_y rX3_y 0 0 1 := cwV 1 C.2.2.2.2.2.1 gX3_removePoint_X3_y rfl rfl rfl (by decide +kernel) ⟨Nat.le_of_ble_eq_true rfl, Nat.le_of_ble_eq_true rfl⟩
theorem cw_X3_removePoint_X3_width_49 {p : Program} {s : State} {m : MethodId} {args : Array Value} {meth : Method} {c : Code} {g : kG} {A : Nat → Prop} (C : CT g p s m args meth c RX3 cX3_removePoint 3 none wsX3_removePoint A) : CallW rX3_removePoint s args RX3 RX3 49 yX3_width cX3_width 3 (some .int) wsX3_width rX3_width 0 0 1 := cwV 1 C.2.2.2.2.2.1 gX3_removePoint_X3_width rfl rfl rfl (by decide +kernel) ⟨Nat.le_of_ble_eq_true rfl, Nat.le_of_ble_eq_true rfl⟩
theorem cw_X3_removePoint_X3_putPoint_36 {p : Program} {s : State} {m : MethodId} {args : Array Value} {meth : Method} {c : Code} {g : kG} {A : Nat → Prop} (C : CT g p s m args meth c RX3 cX3_removePoint 3 none wsX3_removePoint A) : CallW rX3_removePoint s args RX3 RX3 36 yX3_putPoint cX3_putPoint 6 none wsX3_putPoint rX3_putPoint 0 0 4 := cwV 4 C.2.2.2.2.2.1 gX3_removePoint_X3_putPoint rfl rfl rfl (by decide +kernel) ⟨Nat.le_of_ble_eq_true rfl, Nat.le_of_ble_eq_true rfl⟩
theorem cw_X3_removePoint_X3_keepAll_40 {p : Program} {s : State} {m : MethodId} {args : Array Value} {meth : Method} {c : Code} {g : kG} {A : Nat → Prop} (C : CT g p s m args meth c RX3 cX3_removePoint 3 none wsX3_removePoint A) : CallW rX3_removePoint s args RX3 RX3 40 yX3_keepAll cX3_keepAll 1 none wsX3_keepAll rX3_keepAll 0 0 0 := cwV 0 C.2.2.2.2.2.1 gX3_removePoint_X3_keepAll rfl rfl rfl (by decide +kernel) ⟨Nat.le_of_ble_eq_true rfl, Nat.le_of_ble_eq_true rfl⟩
noncomputable def bX3_removePoint_2 : Int32 × SS → Option ((Int32 × SS) ⊕ (SS))
  | (x1, u2) => if ((S_size u2) - 1) ≤ x1 then (some (.inr u2)) else ((fX3_x (x1 + 1) u2).bind fun r4 => (fX3_y (x1 + 1) u2).bind fun r5 => (fX3_width (x1 + 1) u2).bind fun r6 => (fX3_putPoint x1 r4 r5 r6 u2).bind fun u7 => some (.inl (x1 + 1, u7)))
noncomputable def lX3_removePoint_2 (x1 : Int32) (u2 : SS) : Option (SS) := lp bX3_removePoint_2 (x1, u2)
theorem lX3_removePoint_2_eq (x1 : Int32) (u2 : SS) : lX3_removePoint_2 x1 u2 = (if ((S_size u2) - 1) ≤ x1 then (some (.inr u2)) else ((fX3_x (x1 + 1) u2).bind fun r4 => (fX3_y (x1 + 1) u2).bind fun r5 => (fX3_width (x1 + 1) u2).bind fun r6 => (fX3_putPoint x1 r4 r5 r6 u2).bind fun u7 => some (.inl (x1 + 1, u7)))).bind fun r => Sum.elim (fun z => lX3_removePoint_2 z.1 z.2) (fun r => some r) r := lp_eq bX3_removePoint_2 (x1, u2)
set_option maxRecDepth 100000 in
set_option maxHeartbeats 4000000 in
theorem tX3_removePoint_2 {p : Program} {l : Launch} {e : Env} {s : State} {m : MethodId} {args : Array Value} {below : List Frame} {meth : Method} {c : Code} {g : kG} {A : Nat → Prop} {Q : State → Prop} (a : Nat → Nat) (C : CT g p s m args meth c RX3 cX3_removePoint 3 none wsX3_removePoint A) (u3 : SS) (kk : ∀ (H : Heap) (locs : List Loc) (ls : Array Slot), ST g A s H locs (wS g a u3) → lv_has ls 3 [(0, .ref (a 0))] → W p l e rX3_removePoint s m args below meth c H locs 0 0 Q (F0 m 44 ls [])) : ∀ (n : Nat) (x1 : Int32) (u2 : SS), whl bX3_removePoint_2 n (x1, u2) = some u3 → ∀ (H : Heap) (locs : List Loc) (ls : Array Slot), ST g A s H locs (wS g a u2) → lv_has ls 3 [(0, .ref (a 0)), (2, .int x1)] → W p l e rX3_removePoint s m args below meth c H locs 0 0 Q (F0 m 2 ls []) := by
  have hx := C.1
  have hb := C.2.1
  have hinX3 := in_X3_removePoint_X3
  have hf15 := C.2.2.2.2.2.1 _ fl_X3_removePoint_15
  intro n
  induction n with
  | zero =>
    intro x1 u2 hm
    cases hm
  | succ n ih =>
    intro x1 u2 hm H locs ls X hl
    rw [whl] at hm
    obtain ⟨q, hq, hm2⟩ := bnd hm
    clear hm
    have hm := hq
    clear hq
    rw [bX3_removePoint_2] at hm
    refine lv_iload_n hx hb dX3_removePoint_2 rfl (lv_at hl 1 rfl) ?_
    refine lv_aload_n hx hb dX3_removePoint_3 rfl (lv_at hl 0 rfl) ?_
    refine kget C X 0 (ci := 3) rfl rfl hinX3 1 (by decide) hf15 (v := .int (S_size u2)) rfl dX3_removePoint_4 ?_
    refine lv_iconst (v := 1) hx hb dX3_removePoint_7 (by decide) ?_
    refine lv_isub hx hb dX3_removePoint_8 ?_
    refine lv_icmp_ge (tgt := 44) hx hb dX3_removePoint_9 (by decide) (fun hc => ?_) (fun hc => ?_)
    · have hm := ifp hc hm
      cases sm hm
      cases sm hm2
      exact kk _ _ _ X (lv_sub hl [0] rfl)
    · have hm := ifn hc hm
      refine lv_aload_n hx hb dX3_removePoint_12 rfl (lv_at hl 0 rfl) ?_
      refine lv_iload_n hx hb dX3_removePoint_13 rfl (lv_at hl 1 rfl) ?_
      refine lv_aload_n hx hb dX3_removePoint_14 rfl (lv_at hl 0 rfl) ?_
      refine lv_iload_n hx hb dX3_removePoint_15 rfl (lv_at hl 1 rfl) ?_
      refine lv_iconst (v := 1) hx hb dX3_removePoint_16 (by decide) ?_
      refine lv_iadd hx hb dX3_removePoint_17 ?_
      obtain ⟨r4, hcl, hm⟩ := bnd hm
      refine kVW C X (kX3_x l g a (x1 + 1) u2 r4 hcl) (cw_X3_removePoint_X3_x_43 C) 0 (ci := 3) rfl rfl (As := [.int (x1 + 1)]) rfl hl (rest := [.int x1, .ref (a 0)]) rfl (Nat.le_of_ble_eq_true rfl) (st2 := [.int r4, .int x1, .ref (a 0)]) rfl dX3_removePoint_18 ⟨Nat.le_of_ble_eq_true rfl, Nat.le_of_ble_eq_true rfl⟩ (fun H locs X => ?_)
      clear hcl
      refine lv_aload_n hx hb dX3_removePoint_21 rfl (lv_at hl 0 rfl) ?_
      refine lv_iload_n hx hb dX3_removePoint_22 rfl (lv_at hl 1 rfl) ?_
      refine lv_iconst (v := 1) hx hb dX3_removePoint_23 (by decide) ?_
      refine lv_iadd hx hb dX3_removePoint_24 ?_
      obtain ⟨r5, hcl, hm⟩ := bnd hm
      refine kVW C X (kX3_y l g a (x1 + 1) u2 r5 hcl) (cw_X3_removePoint_X3_y_46 C) 0 (ci := 3) rfl rfl (As := [.int (x1 + 1)]) rfl hl (rest := [.int r4, .int x1, .ref (a 0)]) rfl (Nat.le_of_ble_eq_true rfl) (st2 := [.int r5, .int r4, .int x1, .ref (a 0)]) rfl dX3_removePoint_25 ⟨Nat.le_of_ble_eq_true rfl, Nat.le_of_ble_eq_true rfl⟩ (fun H locs X => ?_)
      clear hcl
      refine lv_aload_n hx hb dX3_removePoint_28 rfl (lv_at hl 0 rfl) ?_
      refine lv_iload_n hx hb dX3_removePoint_29 rfl (lv_at hl 1 rfl) ?_
      refine lv_iconst (v := 1) hx hb dX3_removePoint_30 (by decide) ?_
      refine lv_iadd hx hb dX3_removePoint_31 ?_
      obtain ⟨r6, hcl, hm⟩ := bnd hm
      refine kVW C X (kX3_width l g a (x1 + 1) u2 r6 hcl) (cw_X3_removePoint_X3_width_49 C) 0 (ci := 3) rfl rfl (As := [.int (x1 + 1)]) rfl hl (rest := [.int r5, .int r4, .int x1, .ref (a 0)]) rfl (Nat.le_of_ble_eq_true rfl) (st2 := [.int r6, .int r5, .int r4, .int x1, .ref (a 0)]) rfl dX3_removePoint_32 ⟨Nat.le_of_ble_eq_true rfl, Nat.le_of_ble_eq_true rfl⟩ (fun H locs X => ?_)
      clear hcl
      obtain ⟨u7, hcl, hm⟩ := bnd hm
      refine kVW C X (kX3_putPoint l g a x1 r4 r5 r6 u2 u7 hcl) (cw_X3_removePoint_X3_putPoint_36 C) 0 (ci := 3) rfl rfl (As := [.int x1, .int r4, .int r5, .int r6]) rfl hl (rest := []) rfl (Nat.le_of_ble_eq_true rfl) (st2 := []) rfl dX3_removePoint_35 ⟨Nat.le_of_ble_eq_true rfl, Nat.le_of_ble_eq_true rfl⟩ (fun H locs X => ?_)
      clear hcl
      refine lv_iinc (v := x1 + 1) (lv' := [(2, .int (x1 + 1)), (0, .ref (a 0))]) hx hb dX3_removePoint_38 hl (k := 1) rfl rfl (by decide) rfl (fun ls hl => ?_)
      refine lv_goto (tgt := 2) hx hb dX3_removePoint_41 (by decide) ?_
      cases sm hm
      exact ih _ _ hm2 _ _ _ X (lv_sub hl [1, 0] rfl)
noncomputable def fX3_removePoint (p1 : Int32) (u : SS) : Option (SS) := (lX3_removePoint_2 p1 u).bind fun u8 => (fX3_keepAll (S_s_size u8 ((S_size u8) - 1))).bind fun u9 => some u9
set_option maxRecDepth 100000 in
set_option maxHeartbeats 4000000 in
theorem kX3_removePoint (l : Launch) (g : kG) (a : Nat → Nat) (p1 : Int32) (u : SS) (o1 : SS) (hm : fX3_removePoint p1 u = some o1) : KM l yX3_removePoint wsX3_removePoint rX3_removePoint g [.ref (a 0), .int p1] (wS g a u) none (wS g a o1) 0 0 := by
  refine KM.of (nL := 3) (by decide) rfl (Nat.le_of_ble_eq_true rfl) ?_
  intro p e s m args below meth c A ls C X hl
  have C : CT g p s m args meth c RX3 cX3_removePoint 3 none wsX3_removePoint A := C
  have hx := C.1
  have hb := C.2.1
  have hl : lv_has ls 3 [(0, .ref (a 0)), (1, .int p1)] := hl
  have hinX3 := in_X3_removePoint_X3
  have hf15 := C.2.2.2.2.2.1 _ fl_X3_removePoint_15
  rw [fX3_removePoint] at hm
  refine lv_iload_n hx hb dX3_removePoint_0 rfl (lv_at hl 1 rfl) ?_
  refine lv_istore_n (lv' := [(2, .int p1), (0, .ref (a 0)), (1, .int p1)]) hx hb dX3_removePoint_1 rfl hl (by decide) rfl (fun ls hl => ?_)
  obtain ⟨u8, hL, hm⟩ := bnd hm
  obtain ⟨nn, hn⟩ := lp_run hL
  refine tX3_removePoint_2 a C  u8 (fun H locs ls X hl => ?_) nn _ _ hn _ _ _ X (lv_sub hl [1, 0] rfl)
  clear hL hn
  refine lv_aload_n hx hb dX3_removePoint_44 rfl (lv_at hl 0 rfl) ?_
  refine lv_dup hx hb dX3_removePoint_45 rfl ?_
  refine kget C X 0 (ci := 3) rfl rfl hinX3 1 (by decide) hf15 (v := .int (S_size u8)) rfl dX3_removePoint_46 ?_
  refine lv_iconst (v := 1) hx hb dX3_removePoint_49 (by decide) ?_
  refine lv_isub hx hb dX3_removePoint_50 ?_
  refine kput C X 0 (ci := 3) rfl rfl hinX3 tyX3_ok nmX3 1 (by decide) hf15 rfl (ty := .int) (v := .int ((S_size u8) - 1)) rfl rfl rfl (Nat.le_of_ble_eq_true rfl) (w2 := wS g a (S_s_size u8 ((S_size u8) - 1))) rfl dX3_removePoint_51 (fun H locs X => ?_)
  refine lv_aload_n hx hb dX3_removePoint_54 rfl (lv_at hl 0 rfl) ?_
  obtain ⟨u9, hcl, hm⟩ := bnd hm
  refine kVW C X (kX3_keepAll l g a (S_s_size u8 ((S_size u8) - 1)) u9 hcl) (cw_X3_removePoint_X3_keepAll_40 C) 0 (ci := 3) rfl rfl (As := []) rfl hl (rest := []) rfl (Nat.le_of_ble_eq_true rfl) (st2 := []) rfl dX3_removePoint_55 ⟨Nat.le_of_ble_eq_true rfl, Nat.le_of_ble_eq_true rfl⟩ (fun H locs X => ?_)
  clear hcl
  cases sm hm
  exact kvret C X dX3_removePoint_58
-- X3 BrushStrokes$Stroke.removeUnkept()V
abbrev rX3_removeUnkept : Room := { frames := 2, cells := 0, slots := 0, locals := 42 }
theorem fl_X3_removeUnkept_15 : (Cond.fieldLink RX3 15 "BrushStrokes$Stroke" "size" "I") ∈ wsX3_removeUnkept := by decide +kernel
theorem in_X3_removeUnkept_X3 : ∀ w ∈ u_ws RX3 TX3 3, w ∈ wsX3_removeUnkept := by decide +kernel
theorem cw_X3_removeUnkept_X3_isKept_52 {p : Program} {s : State} {m : MethodId} {args : Array Value} {meth : Method} {c : Code} {g : kG} {A : Nat → Prop} (C : CT g p s m args meth c RX3 cX3_removeUnkept 3 none wsX3_removeUnkept A) : CallW rX3_removeUnkept s args RX3 RX3 52 yX3_isKept cX3_isKept 2 (some .boolean) wsX3_isKept rX3_isKept 0 0 1 := cwV 1 C.2.2.2.2.2.1 gX3_removeUnkept_X3_isKept rfl rfl rfl (by decide +kernel) ⟨Nat.le_of_ble_eq_true rfl, Nat.le_of_ble_eq_true rfl⟩
theorem cw_X3_removeUnkept_X3_x_43 {p : Program} {s : State} {m : MethodId} {args : Array Value} {meth : Method} {c : Code} {g : kG} {A : Nat → Prop} (C : CT g p s m args meth c RX3 cX3_removeUnkept 3 none wsX3_removeUnkept A) : CallW rX3_removeUnkept s args RX3 RX3 43 yX3_x cX3_x 3 (some .int) wsX3_x rX3_x 0 0 1 := cwV 1 C.2.2.2.2.2.1 gX3_removeUnkept_X3_x rfl rfl rfl (by decide +kernel) ⟨Nat.le_of_ble_eq_true rfl, Nat.le_of_ble_eq_true rfl⟩
theorem cw_X3_removeUnkept_X3_y_46 {p : Program} {s : State} {m : MethodId} {args : Array Value} {meth : Method} {c : Code} {g : kG} {A : Nat → Prop} (C : CT g p s m args meth c RX3 cX3_removeUnkept 3 none wsX3_removeUnkept A) : CallW rX3_removeUnkept s args RX3 RX3 46 yX3_y cX3_y 3 (some .int) wsX3_y rX3_y 0 0 1 := cwV 1 C.2.2.2.2.2.1 gX3_removeUnkept_X3_y rfl rfl rfl (by decide +kernel) ⟨Nat.le_of_ble_eq_true rfl, Nat.le_of_ble_eq_true rfl⟩
theorem cw_X3_removeUnkept_X3_width_49 {p : Program} {s : State} {m : MethodId} {args : Array Value} {meth : Method} {c : Code} {g : kG} {A : Nat → Prop} (C : CT g p s m args meth c RX3 cX3_removeUnkept 3 none wsX3_removeUnkept A) : CallW rX3_removeUnkept s args RX3 RX3 49 yX3_width cX3_width 3 (some .int) wsX3_width rX3_width 0 0 1 := cwV 1 C.2.2.2.2.2.1 gX3_removeUnkept_X3_width rfl rfl rfl (by decide +kernel) ⟨Nat.le_of_ble_eq_true rfl, Nat.le_of_ble_eq_true rfl⟩
theorem cw_X3_removeUnkept_X3_putPoint_36 {p : Program} {s : State} {m : MethodId} {args : Array Value} {meth : Method} {c : Code} {g : kG} {A : Nat → Prop} (C : CT g p s m args meth c RX3 cX3_removeUnkept 3 none wsX3_removeUnkept A) : CallW rX3_removeUnkept s args RX3 RX3 36 yX3_putPoint cX3_putPoint 6 none wsX3_putPoint rX3_putPoint 0 0 4 := cwV 4 C.2.2.2.2.2.1 gX3_removeUnkept_X3_putPoint rfl rfl rfl (by decide +kernel) ⟨Nat.le_of_ble_eq_true rfl, Nat.le_of_ble_eq_true rfl⟩
theorem cw_X3_removeUnkept_X3_keepAll_40 {p : Program} {s : State} {m : MethodId} {args : Array Value} {meth : Method} {c : Code} {g : kG} {A : Nat → Prop} (C : CT g p s m args meth c RX3 cX3_removeUnkept 3 none wsX3_removeUnkept A) : CallW rX3_removeUnkept s args RX3 RX3 40 yX3_keepAll cX3_keepAll 1 none wsX3_keepAll rX3_keepAll 0 0 0 := cwV 0 C.2.2.2.2.2.1 gX3_removeUnkept_X3_keepAll rfl rfl rfl (by decide +kernel) ⟨Nat.le_of_ble_eq_true rfl, Nat.le_of_ble_eq_true rfl⟩
noncomputable def bX3_removeUnkept_4 : Int32 × Int32 × SS → Option ((Int32 × Int32 × SS) ⊕ (Int32 × SS))
  | (x1, x2, u3) => if (S_size u3) ≤ x2 then (some (.inr (x1, u3))) else ((fX3_isKept x2 u3).bind fun r6 => (if r6 = 0 then (some (x1, u3)) else ((fX3_x x2 u3).bind fun r13 => (fX3_y x2 u3).bind fun r14 => (fX3_width x2 u3).bind fun r15 => (fX3_putPoint x1 r13 r14 r15 u3).bind fun u16 => some (x1 + 1, u16))).bind fun (v11, u12) => some (.inl (v11, x2 + 1, u12)))
noncomputable def lX3_removeUnkept_4 (x1 : Int32) (x2 : Int32) (u3 : SS) : Option (Int32 × SS) := lp bX3_removeUnkept_4 (x1, x2, u3)
theorem lX3_removeUnkept_4_eq (x1 : Int32) (x2 : Int32) (u3 : SS) : lX3_removeUnkept_4 x1 x2 u3 = (if (S_size u3) ≤ x2 then (some (.inr (x1, u3))) else ((fX3_isKept x2 u3).bind fun r6 => (if r6 = 0 then (some (x1, u3)) else ((fX3_x x2 u3).bind fun r13 => (fX3_y x2 u3).bind fun r14 => (fX3_width x2 u3).bind fun r15 => (fX3_putPoint x1 r13 r14 r15 u3).bind fun u16 => some (x1 + 1, u16))).bind fun (v11, u12) => some (.inl (v11, x2 + 1, u12)))).bind fun r => Sum.elim (fun z => lX3_removeUnkept_4 z.1 z.2.1 z.2.2) (fun r => some r) r := lp_eq bX3_removeUnkept_4 (x1, x2, u3)
set_option maxRecDepth 100000 in
set_option maxHeartbeats 4000000 in
theorem tX3_removeUnkept_4 {p : Program} {l : Launch} {e : Env} {s : State} {m : MethodId} {args : Array Value} {below : List Frame} {meth : Method} {c : Code} {g : kG} {A : Nat → Prop} {Q : State → Prop} (a : Nat → Nat) (C : CT g p s m args meth c RX3 cX3_removeUnkept 3 none wsX3_removeUnkept A) (y4 : Int32) (u5 : SS) (kk : ∀ (H : Heap) (locs : List Loc) (ls : Array Slot), ST g A s H locs (wS g a u5) → lv_has ls 3 [(0, .ref (a 0)), (1, .int y4)] → W p l e rX3_removeUnkept s m args below meth c H locs 0 0 Q (F0 m 49 ls [])) : ∀ (n : Nat) (x1 : Int32) (x2 : Int32) (u3 : SS), whl bX3_removeUnkept_4 n (x1, x2, u3) = some (y4, u5) → ∀ (H : Heap) (locs : List Loc) (ls : Array Slot), ST g A s H locs (wS g a u3) → lv_has ls 3 [(0, .ref (a 0)), (1, .int x1), (2, .int x2)] → W p l e rX3_removeUnkept s m args below meth c H locs 0 0 Q (F0 m 4 ls []) := by
  have hx := C.1
  have hb := C.2.1
  have hinX3 := in_X3_removeUnkept_X3
  have hf15 := C.2.2.2.2.2.1 _ fl_X3_removeUnkept_15
  intro n
  induction n with
  | zero =>
    intro x1 x2 u3 hm
    cases hm
  | succ n ih =>
    intro x1 x2 u3 hm H locs ls X hl
    rw [whl] at hm
    obtain ⟨q, hq, hm2⟩ := bnd hm
    clear hm
    have hm := hq
    clear hq
    rw [bX3_removeUnkept_4] at hm
    refine lv_iload_n hx hb dX3_removeUnkept_4 rfl (lv_at hl 2 rfl) ?_
    refine lv_aload_n hx hb dX3_removeUnkept_5 rfl (lv_at hl 0 rfl) ?_
    refine kget C X 0 (ci := 3) rfl rfl hinX3 1 (by decide) hf15 (v := .int (S_size u3)) rfl dX3_removeUnkept_6 ?_
    refine lv_icmp_ge (tgt := 49) hx hb dX3_removeUnkept_9 (by decide) (fun hc => ?_) (fun hc => ?_)
    · have hm := ifp hc hm
      cases sm hm
      cases sm hm2
      exact kk _ _ _ X (lv_sub hl [0, 1] rfl)
    · have hm := ifn hc hm
      refine lv_aload_n hx hb dX3_removeUnkept_12 rfl (lv_at hl 0 rfl) ?_
      refine lv_iload_n hx hb dX3_removeUnkept_13 rfl (lv_at hl 2 rfl) ?_
      obtain ⟨r6, hcl, hm⟩ := bnd hm
      refine kVW C X (kX3_isKept l g a x2 u3 r6 hcl) (cw_X3_removeUnkept_X3_isKept_52 C) 0 (ci := 3) rfl rfl (As := [.int x2]) rfl hl (rest := []) rfl (Nat.le_of_ble_eq_true rfl) (st2 := [.int r6]) rfl dX3_removeUnkept_14 ⟨Nat.le_of_ble_eq_true rfl, Nat.le_of_ble_eq_true rfl⟩ (fun H locs X => ?_)
      clear hcl
      obtain ⟨⟨v11, u12⟩, hE, hm⟩ := bnd hm
      have K : ∀ (H : Heap) (locs : List Loc) (ls : Array Slot), ST g A s H locs (wS g a u12) → lv_has ls 3 [(0, .ref (a 0)), (1, .int v11), (2, .int x2)] → W p l e rX3_removeUnkept s m args below meth c H locs 0 0 Q (F0 m 43 ls []) := by
        intro H locs ls X hl
        clear hE
        refine lv_iinc (v := x2 + 1) (lv' := [(2, .int (x2 + 1)), (0, .ref (a 0)), (1, .int v11)]) hx hb dX3_removeUnkept_43 hl (k := 2) rfl rfl (by decide) rfl (fun ls hl => ?_)
        refine lv_goto (tgt := 4) hx hb dX3_removeUnkept_46 (by decide) ?_
        cases sm hm
        exact ih _ _ _ hm2 _ _ _ X (lv_sub hl [1, 2, 0] rfl)
      clear hm
      have hm := hE
      clear hE
      refine lv_if_eq (tgt := 43) hx hb dX3_removeUnkept_17 (by decide) (fun hc => ?_) (fun hc => ?_)
      · have hm := ifp hc hm
        cases sm hm
        exact K _ _ _ X (lv_sub hl [0, 1, 2] rfl)
      · have hm := ifn hc hm
        refine lv_aload_n hx hb dX3_removeUnkept_20 rfl (lv_at hl 0 rfl) ?_
        refine lv_iload_n hx hb dX3_removeUnkept_21 rfl (lv_at hl 1 rfl) ?_
        refine lv_aload_n hx hb dX3_removeUnkept_22 rfl (lv_at hl 0 rfl) ?_
        refine lv_iload_n hx hb dX3_removeUnkept_23 rfl (lv_at hl 2 rfl) ?_
        obtain ⟨r13, hcl, hm⟩ := bnd hm
        refine kVW C X (kX3_x l g a x2 u3 r13 hcl) (cw_X3_removeUnkept_X3_x_43 C) 0 (ci := 3) rfl rfl (As := [.int x2]) rfl hl (rest := [.int x1, .ref (a 0)]) rfl (Nat.le_of_ble_eq_true rfl) (st2 := [.int r13, .int x1, .ref (a 0)]) rfl dX3_removeUnkept_24 ⟨Nat.le_of_ble_eq_true rfl, Nat.le_of_ble_eq_true rfl⟩ (fun H locs X => ?_)
        clear hcl
        refine lv_aload_n hx hb dX3_removeUnkept_27 rfl (lv_at hl 0 rfl) ?_
        refine lv_iload_n hx hb dX3_removeUnkept_28 rfl (lv_at hl 2 rfl) ?_
        obtain ⟨r14, hcl, hm⟩ := bnd hm
        refine kVW C X (kX3_y l g a x2 u3 r14 hcl) (cw_X3_removeUnkept_X3_y_46 C) 0 (ci := 3) rfl rfl (As := [.int x2]) rfl hl (rest := [.int r13, .int x1, .ref (a 0)]) rfl (Nat.le_of_ble_eq_true rfl) (st2 := [.int r14, .int r13, .int x1, .ref (a 0)]) rfl dX3_removeUnkept_29 ⟨Nat.le_of_ble_eq_true rfl, Nat.le_of_ble_eq_true rfl⟩ (fun H locs X => ?_)
        clear hcl
        refine lv_aload_n hx hb dX3_removeUnkept_32 rfl (lv_at hl 0 rfl) ?_
        refine lv_iload_n hx hb dX3_removeUnkept_33 rfl (lv_at hl 2 rfl) ?_
        obtain ⟨r15, hcl, hm⟩ := bnd hm
        refine kVW C X (kX3_width l g a x2 u3 r15 hcl) (cw_X3_removeUnkept_X3_width_49 C) 0 (ci := 3) rfl rfl (As := [.int x2]) rfl hl (rest := [.int r14, .int r13, .int x1, .ref (a 0)]) rfl (Nat.le_of_ble_eq_true rfl) (st2 := [.int r15, .int r14, .int r13, .int x1, .ref (a 0)]) rfl dX3_removeUnkept_34 ⟨Nat.le_of_ble_eq_true rfl, Nat.le_of_ble_eq_true rfl⟩ (fun H locs X => ?_)
        clear hcl
        obtain ⟨u16, hcl, hm⟩ := bnd hm
        refine kVW C X (kX3_putPoint l g a x1 r13 r14 r15 u3 u16 hcl) (cw_X3_removeUnkept_X3_putPoint_36 C) 0 (ci := 3) rfl rfl (As := [.int x1, .int r13, .int r14, .int r15]) rfl hl (rest := []) rfl (Nat.le_of_ble_eq_true rfl) (st2 := []) rfl dX3_removeUnkept_37 ⟨Nat.le_of_ble_eq_true rfl, Nat.le_of_ble_eq_true rfl⟩ (fun H locs X => ?_)
        clear hcl
        refine lv_iinc (v := x1 + 1) (lv' := [(1, .int (x1 + 1)), (0, .ref (a 0)), (2, .int x2)]) hx hb dX3_removeUnkept_40 hl (k := 1) rfl rfl (by decide) rfl (fun ls hl => ?_)
        cases sm hm
        exact K _ _ _ X (lv_sub hl [1, 0, 2] rfl)
noncomputable def fX3_removeUnkept (u : SS) : Option (SS) := (lX3_removeUnkept_4 0 0 u).bind fun (y17, u18) => (fX3_keepAll (S_s_size u18 y17)).bind fun u19 => some u19
set_option maxRecDepth 100000 in
set_option maxHeartbeats 4000000 in
theorem kX3_removeUnkept (l : Launch) (g : kG) (a : Nat → Nat) (u : SS) (o1 : SS) (hm : fX3_removeUnkept u = some o1) : KM l yX3_removeUnkept wsX3_removeUnkept rX3_removeUnkept g [.ref (a 0)] (wS g a u) none (wS g a o1) 0 0 := by
  refine KM.of (nL := 3) (by decide) rfl (Nat.le_of_ble_eq_true rfl) ?_
  intro p e s m args below meth c A ls C X hl
  have C : CT g p s m args meth c RX3 cX3_removeUnkept 3 none wsX3_removeUnkept A := C
  have hx := C.1
  have hb := C.2.1
  have hl : lv_has ls 3 [(0, .ref (a 0))] := hl
  have hinX3 := in_X3_removeUnkept_X3
  have hf15 := C.2.2.2.2.2.1 _ fl_X3_removeUnkept_15
  rw [fX3_removeUnkept] at hm
  refine lv_iconst (v := 0) hx hb dX3_removeUnkept_0 (by decide) ?_
  refine lv_istore_n (lv' := [(1, .int 0), (0, .ref (a 0))]) hx hb dX3_removeUnkept_1 rfl hl (by decide) rfl (fun ls hl => ?_)
  refine lv_iconst (v := 0) hx hb dX3_removeUnkept_2 (by decide) ?_
  refine lv_istore_n (lv' := [(2, .int 0), (1, .int 0), (0, .ref (a 0))]) hx hb dX3_removeUnkept_3 rfl hl (by decide) rfl (fun ls hl => ?_)
  obtain ⟨⟨y17, u18⟩, hL, hm⟩ := bnd hm
  obtain ⟨nn, hn⟩ := lp_run hL
  refine tX3_removeUnkept_4 a C  y17 u18 (fun H locs ls X hl => ?_) nn _ _ _ hn _ _ _ X (lv_sub hl [2, 1, 0] rfl)
  clear hL hn
  refine lv_aload_n hx hb dX3_removeUnkept_49 rfl (lv_at hl 0 rfl) ?_
  refine lv_iload_n hx hb dX3_removeUnkept_50 rfl (lv_at hl 1 rfl) ?_
  refine kput C X 0 (ci := 3) rfl rfl hinX3 tyX3_ok nmX3 1 (by decide) hf15 rfl (ty := .int) (v := .int y17) rfl rfl rfl (Nat.le_of_ble_eq_true rfl) (w2 := wS g a (S_s_size u18 y17)) rfl dX3_removeUnkept_51 (fun H locs X => ?_)
  refine lv_aload_n hx hb dX3_removeUnkept_54 rfl (lv_at hl 0 rfl) ?_
  obtain ⟨u19, hcl, hm⟩ := bnd hm
  refine kVW C X (kX3_keepAll l g a (S_s_size u18 y17) u19 hcl) (cw_X3_removeUnkept_X3_keepAll_40 C) 0 (ci := 3) rfl rfl (As := []) rfl hl (rest := []) rfl (Nat.le_of_ble_eq_true rfl) (st2 := []) rfl dX3_removeUnkept_55 ⟨Nat.le_of_ble_eq_true rfl, Nat.le_of_ble_eq_true rfl⟩ (fun H locs X => ?_)
  clear hcl
  cases sm hm
  exact kvret C X dX3_removeUnkept_58
-- X3 BrushStrokes$Stroke.keptBefore(I)I
abbrev rX3_keptBefore : Room := { frames := 2, cells := 0, slots := 0, locals := 42 }
theorem cw_X3_keptBefore_X3_isKept_52 {p : Program} {s : State} {m : MethodId} {args : Array Value} {meth : Method} {c : Code} {g : kG} {A : Nat → Prop} (C : CT g p s m args meth c RX3 cX3_keptBefore 3 (some .int) wsX3_keptBefore A) : CallW rX3_keptBefore s args RX3 RX3 52 yX3_isKept cX3_isKept 2 (some .boolean) wsX3_isKept rX3_isKept 0 0 1 := cwV 1 C.2.2.2.2.2.1 gX3_keptBefore_X3_isKept rfl rfl rfl (by decide +kernel) ⟨Nat.le_of_ble_eq_true rfl, Nat.le_of_ble_eq_true rfl⟩
noncomputable def bX3_keptBefore_4 (w2 : SS) (x1 : Int32) : Option ((Int32) ⊕ (Int32)) := if x1 ≤ 0 then (some (.inr 0)) else ((fX3_isKept x1 w2).bind fun r3 => if r3 = 0 then (some (.inl (x1 + (-1)))) else (some (.inr x1)))
noncomputable def lX3_keptBefore_4 (w2 : SS) (x1 : Int32) : Option (Int32) := lp (bX3_keptBefore_4 w2) x1
theorem lX3_keptBefore_4_eq (w2 : SS) (x1 : Int32) : lX3_keptBefore_4 w2 x1 = (if x1 ≤ 0 then (some (.inr 0)) else ((fX3_isKept x1 w2).bind fun r3 => if r3 = 0 then (some (.inl (x1 + (-1)))) else (some (.inr x1)))).bind fun r => Sum.elim (fun z => lX3_keptBefore_4 w2 z) (fun r => some r) r := lp_eq (bX3_keptBefore_4 w2) x1
set_option maxRecDepth 100000 in
set_option maxHeartbeats 4000000 in
theorem tX3_keptBefore_4 {p : Program} {l : Launch} {e : Env} {s : State} {m : MethodId} {args : Array Value} {below : List Frame} {meth : Method} {c : Code} {g : kG} {A : Nat → Prop} (a : Nat → Nat) (C : CT g p s m args meth c RX3 cX3_keptBefore 3 (some .int) wsX3_keptBefore A) (w2 : SS) (o1 : Int32) : ∀ (n : Nat) (x1 : Int32), whl (bX3_keptBefore_4 w2) n x1 = some o1 → ∀ (H : Heap) (locs : List Loc) (ls : Array Slot), ST g A s H locs (wS g a w2) → lv_has ls 3 [(0, .ref (a 0)), (2, .int x1)] → W p l e rX3_keptBefore s m args below meth c H locs 0 0 (kEnd g below args s (some (.int o1)) (wS g a u) A 0 0) (F0 m 4 ls []) := by
  have hx := C.1
  have hb := C.2.1
  intro n
  induction n with
  | zero =>
    intro x1 hm
    cases hm
  | succ n ih =>
    intro x1 hm H locs ls X hl
    rw [whl] at hm
    obtain ⟨q, hq, hm2⟩ := bnd hm
    clear hm
    have hm := hq
    clear hq
    rw [bX3_keptBefore_4] at hm
    refine lv_iload_n hx hb dX3_keptBefore_4 rfl (lv_at hl 1 rfl) ?_
    refine lv_if_le (tgt := 24) hx hb dX3_keptBefore_5 (by decide) (fun hc => ?_) (fun hc => ?_)
    · have hm := ifp hc hm
      refine lv_iconst (v := 0) hx hb dX3_keptBefore_24 (by decide) ?_
      cases sm hm
      cases sm hm2
      exact kiret C X dX3_keptBefore_25
    · have hm := ifn hc hm
      refine lv_aload_n hx hb dX3_keptBefore_8 rfl (lv_at hl 0 rfl) ?_
      refine lv_iload_n hx hb dX3_keptBefore_9 rfl (lv_at hl 1 rfl) ?_
      obtain ⟨r3, hcl, hm⟩ := bnd hm
      refine kVW C X (kX3_isKept l g a x1 w2 r3 hcl) (cw_X3_keptBefore_X3_isKept_52 C) 0 (ci := 3) rfl rfl (As := [.int x1]) rfl hl (rest := []) rfl (Nat.le_of_ble_eq_true rfl) (st2 := [.int r3]) rfl dX3_keptBefore_10 ⟨Nat.le_of_ble_eq_true rfl, Nat.le_of_ble_eq_true rfl⟩ (fun H locs X => ?_)
      clear hcl
      refine lv_if_eq (tgt := 18) hx hb dX3_keptBefore_13 (by decide) (fun hc => ?_) (fun hc => ?_)
      · have hm := ifp hc hm
        refine lv_iinc (v := x1 + (-1)) (lv' := [(2, .int (x1 + (-1))), (0, .ref (a 0))]) hx hb dX3_keptBefore_18 hl (k := 1) rfl rfl (by decide) rfl (fun ls hl => ?_)
        refine lv_goto (tgt := 4) hx hb dX3_keptBefore_21 (by decide) ?_
        cases sm hm
        exact ih _ hm2 _ _ _ X (lv_sub hl [1, 0] rfl)
      · have hm := ifn hc hm
        refine lv_iload_n hx hb dX3_keptBefore_16 rfl (lv_at hl 1 rfl) ?_
        cases sm hm
        cases sm hm2
        exact kiret C X dX3_keptBefore_17
noncomputable def fX3_keptBefore (p1 : Int32) (u : SS) : Option (Int32) := lX3_keptBefore_4 u (p1 - 1)
set_option maxRecDepth 100000 in
set_option maxHeartbeats 4000000 in
theorem kX3_keptBefore (l : Launch) (g : kG) (a : Nat → Nat) (p1 : Int32) (u : SS) (o1 : Int32) (hm : fX3_keptBefore p1 u = some o1) : KM l yX3_keptBefore wsX3_keptBefore rX3_keptBefore g [.ref (a 0), .int p1] (wS g a u) (some (.int o1)) (wS g a u) 0 0 := by
  refine KM.of (nL := 3) (by decide) rfl (Nat.le_of_ble_eq_true rfl) ?_
  intro p e s m args below meth c A ls C X hl
  have C : CT g p s m args meth c RX3 cX3_keptBefore 3 (some .int) wsX3_keptBefore A := C
  have hx := C.1
  have hb := C.2.1
  have hl : lv_has ls 3 [(0, .ref (a 0)), (1, .int p1)] := hl
  rw [fX3_keptBefore] at hm
  refine lv_iload_n hx hb dX3_keptBefore_0 rfl (lv_at hl 1 rfl) ?_
  refine lv_iconst (v := 1) hx hb dX3_keptBefore_1 (by decide) ?_
  refine lv_isub hx hb dX3_keptBefore_2 ?_
  refine lv_istore_n (lv' := [(2, .int (p1 - 1)), (0, .ref (a 0)), (1, .int p1)]) hx hb dX3_keptBefore_3 rfl hl (by decide) rfl (fun ls hl => ?_)
  obtain ⟨nn, hn⟩ := lp_run hm
  exact tX3_keptBefore_4 a C u _ nn _ hn _ _ _ X (lv_sub hl [1, 0] rfl)
-- X3 BrushStrokes$Stroke.keptBehind(I)I
abbrev rX3_keptBehind : Room := { frames := 2, cells := 0, slots := 0, locals := 42 }
theorem fl_X3_keptBehind_15 : (Cond.fieldLink RX3 15 "BrushStrokes$Stroke" "size" "I") ∈ wsX3_keptBehind := by decide +kernel
theorem in_X3_keptBehind_X3 : ∀ w ∈ u_ws RX3 TX3 3, w ∈ wsX3_keptBehind := by decide +kernel
theorem cw_X3_keptBehind_X3_isKept_52 {p : Program} {s : State} {m : MethodId} {args : Array Value} {meth : Method} {c : Code} {g : kG} {A : Nat → Prop} (C : CT g p s m args meth c RX3 cX3_keptBehind 3 (some .int) wsX3_keptBehind A) : CallW rX3_keptBehind s args RX3 RX3 52 yX3_isKept cX3_isKept 2 (some .boolean) wsX3_isKept rX3_isKept 0 0 1 := cwV 1 C.2.2.2.2.2.1 gX3_keptBehind_X3_isKept rfl rfl rfl (by decide +kernel) ⟨Nat.le_of_ble_eq_true rfl, Nat.le_of_ble_eq_true rfl⟩
noncomputable def bX3_keptBehind_4 (w2 : SS) (x1 : Int32) : Option ((Int32) ⊕ (Int32)) := if (S_size w2) ≤ x1 then (some (.inr ((S_size w2) - 1))) else ((fX3_isKept x1 w2).bind fun r3 => if r3 = 0 then (some (.inl (x1 + 1))) else (some (.inr x1)))
noncomputable def lX3_keptBehind_4 (w2 : SS) (x1 : Int32) : Option (Int32) := lp (bX3_keptBehind_4 w2) x1
theorem lX3_keptBehind_4_eq (w2 : SS) (x1 : Int32) : lX3_keptBehind_4 w2 x1 = (if (S_size w2) ≤ x1 then (some (.inr ((S_size w2) - 1))) else ((fX3_isKept x1 w2).bind fun r3 => if r3 = 0 then (some (.inl (x1 + 1))) else (some (.inr x1)))).bind fun r => Sum.elim (fun z => lX3_keptBehind_4 w2 z) (fun r => some r) r := lp_eq (bX3_keptBehind_4 w2) x1
set_option maxRecDepth 100000 in
set_option maxHeartbeats 4000000 in
theorem tX3_keptBehind_4 {p : Program} {l : Launch} {e : Env} {s : State} {m : MethodId} {args : Array Value} {below : List Frame} {meth : Method} {c : Code} {g : kG} {A : Nat → Prop} (a : Nat → Nat) (C : CT g p s m args meth c RX3 cX3_keptBehind 3 (some .int) wsX3_keptBehind A) (w2 : SS) (o1 : Int32) : ∀ (n : Nat) (x1 : Int32), whl (bX3_keptBehind_4 w2) n x1 = some o1 → ∀ (H : Heap) (locs : List Loc) (ls : Array Slot), ST g A s H locs (wS g a w2) → lv_has ls 3 [(0, .ref (a 0)), (2, .int x1)] → W p l e rX3_keptBehind s m args below meth c H locs 0 0 (kEnd g below args s (some (.int o1)) (wS g a u) A 0 0) (F0 m 4 ls []) := by
  have hx := C.1
  have hb := C.2.1
  have hinX3 := in_X3_keptBehind_X3
  have hf15 := C.2.2.2.2.2.1 _ fl_X3_keptBehind_15
  intro n
  induction n with
  | zero =>
    intro x1 hm
    cases hm
  | succ n ih =>
    intro x1 hm H locs ls X hl
    rw [whl] at hm
    obtain ⟨q, hq, hm2⟩ := bnd hm
    clear hm
    have hm := hq
    clear hq
    rw [bX3_keptBehind_4] at hm
    refine lv_iload_n hx hb dX3_keptBehind_4 rfl (lv_at hl 1 rfl) ?_
    refine lv_aload_n hx hb dX3_keptBehind_5 rfl (lv_at hl 0 rfl) ?_
    refine kget C X 0 (ci := 3) rfl rfl hinX3 1 (by decide) hf15 (v := .int (S_size w2)) rfl dX3_keptBehind_6 ?_
    refine lv_icmp_ge (tgt := 28) hx hb dX3_keptBehind_9 (by decide) (fun hc => ?_) (fun hc => ?_)
    · have hm := ifp hc hm
      refine lv_aload_n hx hb dX3_keptBehind_28 rfl (lv_at hl 0 rfl) ?_
      refine kget C X 0 (ci := 3) rfl rfl hinX3 1 (by decide) hf15 (v := .int (S_size w2)) rfl dX3_keptBehind_29 ?_
      refine lv_iconst (v := 1) hx hb dX3_keptBehind_32 (by decide) ?_
      refine lv_isub hx hb dX3_keptBehind_33 ?_
      cases sm hm
      cases sm hm2
      exact kiret C X dX3_keptBehind_34
    · have hm := ifn hc hm
      refine lv_aload_n hx hb dX3_keptBehind_12 rfl (lv_at hl 0 rfl) ?_
      refine lv_iload_n hx hb dX3_keptBehind_13 rfl (lv_at hl 1 rfl) ?_
      obtain ⟨r3, hcl, hm⟩ := bnd hm
      refine kVW C X (kX3_isKept l g a x1 w2 r3 hcl) (cw_X3_keptBehind_X3_isKept_52 C) 0 (ci := 3) rfl rfl (As := [.int x1]) rfl hl (rest := []) rfl (Nat.le_of_ble_eq_true rfl) (st2 := [.int r3]) rfl dX3_keptBehind_14 ⟨Nat.le_of_ble_eq_true rfl, Nat.le_of_ble_eq_true rfl⟩ (fun H locs X => ?_)
      clear hcl
      refine lv_if_eq (tgt := 22) hx hb dX3_keptBehind_17 (by decide) (fun hc => ?_) (fun hc => ?_)
      · have hm := ifp hc hm
        refine lv_iinc (v := x1 + 1) (lv' := [(2, .int (x1 + 1)), (0, .ref (a 0))]) hx hb dX3_keptBehind_22 hl (k := 1) rfl rfl (by decide) rfl (fun ls hl => ?_)
        refine lv_goto (tgt := 4) hx hb dX3_keptBehind_25 (by decide) ?_
        cases sm hm
        exact ih _ hm2 _ _ _ X (lv_sub hl [1, 0] rfl)
      · have hm := ifn hc hm
        refine lv_iload_n hx hb dX3_keptBehind_20 rfl (lv_at hl 1 rfl) ?_
        cases sm hm
        cases sm hm2
        exact kiret C X dX3_keptBehind_21
noncomputable def fX3_keptBehind (p1 : Int32) (u : SS) : Option (Int32) := lX3_keptBehind_4 u (p1 + 1)
set_option maxRecDepth 100000 in
set_option maxHeartbeats 4000000 in
theorem kX3_keptBehind (l : Launch) (g : kG) (a : Nat → Nat) (p1 : Int32) (u : SS) (o1 : Int32) (hm : fX3_keptBehind p1 u = some o1) : KM l yX3_keptBehind wsX3_keptBehind rX3_keptBehind g [.ref (a 0), .int p1] (wS g a u) (some (.int o1)) (wS g a u) 0 0 := by
  refine KM.of (nL := 3) (by decide) rfl (Nat.le_of_ble_eq_true rfl) ?_
  intro p e s m args below meth c A ls C X hl
  have C : CT g p s m args meth c RX3 cX3_keptBehind 3 (some .int) wsX3_keptBehind A := C
  have hx := C.1
  have hb := C.2.1
  have hl : lv_has ls 3 [(0, .ref (a 0)), (1, .int p1)] := hl
  rw [fX3_keptBehind] at hm
  refine lv_iload_n hx hb dX3_keptBehind_0 rfl (lv_at hl 1 rfl) ?_
  refine lv_iconst (v := 1) hx hb dX3_keptBehind_1 (by decide) ?_
  refine lv_iadd hx hb dX3_keptBehind_2 ?_
  refine lv_istore_n (lv' := [(2, .int (p1 + 1)), (0, .ref (a 0)), (1, .int p1)]) hx hb dX3_keptBehind_3 rfl hl (by decide) rfl (fun ls hl => ?_)
  obtain ⟨nn, hn⟩ := lp_run hm
  exact tX3_keptBehind_4 a C u _ nn _ hn _ _ _ X (lv_sub hl [1, 0] rfl)
-- X3 BrushStrokes$Stroke.square(II)J
abbrev rX3_square : Room := { frames := 1, cells := 0, slots := 0, locals := 22 }
theorem cw_X3_square_X3_y_46 {p : Program} {s : State} {m : MethodId} {args : Array Value} {meth : Method} {c : Code} {g : kG} {A : Nat → Prop} (C : CT g p s m args meth c RX3 cX3_square 7 (some .long) wsX3_square A) : CallW rX3_square s args RX3 RX3 46 yX3_y cX3_y 3 (some .int) wsX3_y rX3_y 0 0 1 := cwV 1 C.2.2.2.2.2.1 gX3_square_X3_y rfl rfl rfl (by decide +kernel) ⟨Nat.le_of_ble_eq_true rfl, Nat.le_of_ble_eq_true rfl⟩
theorem cw_X3_square_X3_x_43 {p : Program} {s : State} {m : MethodId} {args : Array Value} {meth : Method} {c : Code} {g : kG} {A : Nat → Prop} (C : CT g p s m args meth c RX3 cX3_square 7 (some .long) wsX3_square A) : CallW rX3_square s args RX3 RX3 43 yX3_x cX3_x 3 (some .int) wsX3_x rX3_x 0 0 1 := cwV 1 C.2.2.2.2.2.1 gX3_square_X3_x rfl rfl rfl (by decide +kernel) ⟨Nat.le_of_ble_eq_true rfl, Nat.le_of_ble_eq_true rfl⟩
noncomputable def fX3_square (p1 : Int32) (p2 : Int32) (u : SS) : Option (Int64) := (fX3_x p2 u).bind fun r1 => (fX3_x p1 u).bind fun r2 => (fX3_y p2 u).bind fun r3 => (fX3_y p1 u).bind fun r4 => some ((((r1 - r2).toInt64) * ((r1 - r2).toInt64)) + (((r3 - r4).toInt64) * ((r3 - r4).toInt64)))
set_option maxRecDepth 100000 in
set_option maxHeartbeats 4000000 in
theorem kX3_square (l : Launch) (g : kG) (a : Nat → Nat) (p1 : Int32) (p2 : Int32) (u : SS) (o1 : Int64) (hm : fX3_square p1 p2 u = some o1) : KM l yX3_square wsX3_square rX3_square g [.ref (a 0), .int p1, .int p2] (wS g a u) (some (.long o1)) (wS g a u) 0 0 := by
  refine KM.of (nL := 7) (by decide) rfl (Nat.le_of_ble_eq_true rfl) ?_
  intro p e s m args below meth c A ls C X hl
  have C : CT g p s m args meth c RX3 cX3_square 7 (some .long) wsX3_square A := C
  have hx := C.1
  have hb := C.2.1
  have hl : lv_has ls 7 [(0, .ref (a 0)), (1, .int p1), (2, .int p2)] := hl
  rw [fX3_square] at hm
  refine lv_aload_n hx hb dX3_square_0 rfl (lv_at hl 0 rfl) ?_
  refine lv_iload_n hx hb dX3_square_1 rfl (lv_at hl 2 rfl) ?_
  obtain ⟨r1, hcl, hm⟩ := bnd hm
  refine kVW C X (kX3_x l g a p2 u r1 hcl) (cw_X3_square_X3_x_43 C) 0 (ci := 3) rfl rfl (As := [.int p2]) rfl hl (rest := []) rfl (Nat.le_of_ble_eq_true rfl) (st2 := [.int r1]) rfl dX3_square_2 ⟨Nat.le_of_ble_eq_true rfl, Nat.le_of_ble_eq_true rfl⟩ (fun H locs X => ?_)
  clear hcl
  refine lv_aload_n hx hb dX3_square_5 rfl (lv_at hl 0 rfl) ?_
  refine lv_iload_n hx hb dX3_square_6 rfl (lv_at hl 1 rfl) ?_
  obtain ⟨r2, hcl, hm⟩ := bnd hm
  refine kVW C X (kX3_x l g a p1 u r2 hcl) (cw_X3_square_X3_x_43 C) 0 (ci := 3) rfl rfl (As := [.int p1]) rfl hl (rest := [.int r1]) rfl (Nat.le_of_ble_eq_true rfl) (st2 := [.int r2, .int r1]) rfl dX3_square_7 ⟨Nat.le_of_ble_eq_true rfl, Nat.le_of_ble_eq_true rfl⟩ (fun H locs X => ?_)
  clear hcl
  refine lv_isub hx hb dX3_square_10 ?_
  refine lv_i2l (v := (r1 - r2).toInt64) hx hb dX3_square_11 rfl ?_
  refine lv_lstore_n (lv' := [(3, .long ((r1 - r2).toInt64)), (0, .ref (a 0)), (1, .int p1), (2, .int p2)]) hx hb dX3_square_12 rfl hl (by decide) rfl (fun ls hl => ?_)
  refine lv_aload_n hx hb dX3_square_13 rfl (lv_at hl 1 rfl) ?_
  refine lv_iload_n hx hb dX3_square_14 rfl (lv_at hl 3 rfl) ?_
  obtain ⟨r3, hcl, hm⟩ := bnd hm
  refine kVW C X (kX3_y l g a p2 u r3 hcl) (cw_X3_square_X3_y_46 C) 0 (ci := 3) rfl rfl (As := [.int p2]) rfl hl (rest := []) rfl (Nat.le_of_ble_eq_true rfl) (st2 := [.int r3]) rfl dX3_square_15 ⟨Nat.le_of_ble_eq_true rfl, Nat.le_of_ble_eq_true rfl⟩ (fun H locs X => ?_)
  clear hcl
  refine lv_aload_n hx hb dX3_square_18 rfl (lv_at hl 1 rfl) ?_
  refine lv_iload_n hx hb dX3_square_19 rfl (lv_at hl 2 rfl) ?_
  obtain ⟨r4, hcl, hm⟩ := bnd hm
  refine kVW C X (kX3_y l g a p1 u r4 hcl) (cw_X3_square_X3_y_46 C) 0 (ci := 3) rfl rfl (As := [.int p1]) rfl hl (rest := [.int r3]) rfl (Nat.le_of_ble_eq_true rfl) (st2 := [.int r4, .int r3]) rfl dX3_square_20 ⟨Nat.le_of_ble_eq_true rfl, Nat.le_of_ble_eq_true rfl⟩ (fun H locs X => ?_)
  clear hcl
  refine lv_isub hx hb dX3_square_23 ?_
  refine lv_i2l (v := (r3 - r4).toInt64) hx hb dX3_square_24 rfl ?_
  refine lv_lstore (lv' := [(5, .long ((r3 - r4).toInt64)), (3, .long ((r1 - r2).toInt64)), (0, .ref (a 0)), (1, .int p1), (2, .int p2)]) hx hb dX3_square_25 hl (by decide) rfl (fun ls hl => ?_)
  refine lv_lload_n hx hb dX3_square_27 rfl (lv_at hl 1 rfl) ?_
  refine lv_lload_n hx hb dX3_square_28 rfl (lv_at hl 1 rfl) ?_
  refine lv_lmul hx hb dX3_square_29 ?_
  refine lv_lload hx hb dX3_square_30 (lv_at hl 0 rfl) ?_
  refine lv_lload hx hb dX3_square_32 (lv_at hl 0 rfl) ?_
  refine lv_lmul hx hb dX3_square_34 ?_
  refine lv_ladd hx hb dX3_square_35 ?_
  cases sm hm
  exact klret C X dX3_square_36
-- X3 BrushStrokes$Stroke.productAt(III)J
abbrev rX3_productAt : Room := { frames := 1, cells := 0, slots := 0, locals := 22 }
theorem cw_X3_productAt_X3_x_43 {p : Program} {s : State} {m : MethodId} {args : Array Value} {meth : Method} {c : Code} {g : kG} {A : Nat → Prop} (C : CT g p s m args meth c RX3 cX3_productAt 4 (some .long) wsX3_productAt A) : CallW rX3_productAt s args RX3 RX3 43 yX3_x cX3_x 3 (some .int) wsX3_x rX3_x 0 0 1 := cwV 1 C.2.2.2.2.2.1 gX3_productAt_X3_x rfl rfl rfl (by decide +kernel) ⟨Nat.le_of_ble_eq_true rfl, Nat.le_of_ble_eq_true rfl⟩
theorem cw_X3_productAt_X3_y_46 {p : Program} {s : State} {m : MethodId} {args : Array Value} {meth : Method} {c : Code} {g : kG} {A : Nat → Prop} (C : CT g p s m args meth c RX3 cX3_productAt 4 (some .long) wsX3_productAt A) : CallW rX3_productAt s args RX3 RX3 46 yX3_y cX3_y 3 (some .int) wsX3_y rX3_y 0 0 1 := cwV 1 C.2.2.2.2.2.1 gX3_productAt_X3_y rfl rfl rfl (by decide +kernel) ⟨Nat.le_of_ble_eq_true rfl, Nat.le_of_ble_eq_true rfl⟩
noncomputable def fX3_productAt (p1 : Int32) (p2 : Int32) (p3 : Int32) (u : SS) : Option (Int64) := (fX3_x p2 u).bind fun r1 => (fX3_x p1 u).bind fun r2 => (fX3_x p3 u).bind fun r3 => (fX3_x p2 u).bind fun r4 => (fX3_y p2 u).bind fun r5 => (fX3_y p1 u).bind fun r6 => (fX3_y p3 u).bind fun r7 => (fX3_y p2 u).bind fun r8 => some ((((r1 - r2).toInt64) * ((r3 - r4).toInt64)) + (((r5 - r6).toInt64) * ((r7 - r8).toInt64)))
set_option maxRecDepth 100000 in
set_option maxHeartbeats 4000000 in
theorem kX3_productAt (l : Launch) (g : kG) (a : Nat → Nat) (p1 : Int32) (p2 : Int32) (p3 : Int32) (u : SS) (o1 : Int64) (hm : fX3_productAt p1 p2 p3 u = some o1) : KM l yX3_productAt wsX3_productAt rX3_productAt g [.ref (a 0), .int p1, .int p2, .int p3] (wS g a u) (some (.long o1)) (wS g a u) 0 0 := by
  refine KM.of (nL := 4) (by decide) rfl (Nat.le_of_ble_eq_true rfl) ?_
  intro p e s m args below meth c A ls C X hl
  have C : CT g p s m args meth c RX3 cX3_productAt 4 (some .long) wsX3_productAt A := C
  have hx := C.1
  have hb := C.2.1
  have hl : lv_has ls 4 [(0, .ref (a 0)), (1, .int p1), (2, .int p2), (3, .int p3)] := hl
  rw [fX3_productAt] at hm
  refine lv_aload_n hx hb dX3_productAt_0 rfl (lv_at hl 0 rfl) ?_
  refine lv_iload_n hx hb dX3_productAt_1 rfl (lv_at hl 2 rfl) ?_
  obtain ⟨r1, hcl, hm⟩ := bnd hm
  refine kVW C X (kX3_x l g a p2 u r1 hcl) (cw_X3_productAt_X3_x_43 C) 0 (ci := 3) rfl rfl (As := [.int p2]) rfl hl (rest := []) rfl (Nat.le_of_ble_eq_true rfl) (st2 := [.int r1]) rfl dX3_productAt_2 ⟨Nat.le_of_ble_eq_true rfl, Nat.le_of_ble_eq_true rfl⟩ (fun H locs X => ?_)
  clear hcl
  refine lv_aload_n hx hb dX3_productAt_5 rfl (lv_at hl 0 rfl) ?_
  refine lv_iload_n hx hb dX3_productAt_6 rfl (lv_at hl 1 rfl) ?_
  obtain ⟨r2, hcl, hm⟩ := bnd hm
  refine kVW C X (kX3_x l g a p1 u r2 hcl) (cw_X3_productAt_X3_x_43 C) 0 (ci := 3) rfl rfl (As := [.int p1]) rfl hl (rest := [.int r1]) rfl (Nat.le_of_ble_eq_true rfl) (st2 := [.int r2, .int r1]) rfl dX3_productAt_7 ⟨Nat.le_of_ble_eq_true rfl, Nat.le_of_ble_eq_true rfl⟩ (fun H locs X => ?_)
  clear hcl
  refine lv_isub hx hb dX3_productAt_10 ?_
  refine lv_i2l (v := (r1 - r2).toInt64) hx hb dX3_productAt_11 rfl ?_
  refine lv_aload_n hx hb dX3_productAt_12 rfl (lv_at hl 0 rfl) ?_
  refine lv_iload_n hx hb dX3_productAt_13 rfl (lv_at hl 3 rfl) ?_
  obtain ⟨r3, hcl, hm⟩ := bnd hm
  refine kVW C X (kX3_x l g a p3 u r3 hcl) (cw_X3_productAt_X3_x_43 C) 0 (ci := 3) rfl rfl (As := [.int p3]) rfl hl (rest := [.long ((r1 - r2).toInt64)]) rfl (Nat.le_of_ble_eq_true rfl) (st2 := [.int r3, .long ((r1 - r2).toInt64)]) rfl dX3_productAt_14 ⟨Nat.le_of_ble_eq_true rfl, Nat.le_of_ble_eq_true rfl⟩ (fun H locs X => ?_)
  clear hcl
  refine lv_aload_n hx hb dX3_productAt_17 rfl (lv_at hl 0 rfl) ?_
  refine lv_iload_n hx hb dX3_productAt_18 rfl (lv_at hl 2 rfl) ?_
  obtain ⟨r4, hcl, hm⟩ := bnd hm
  refine kVW C X (kX3_x l g a p2 u r4 hcl) (cw_X3_productAt_X3_x_43 C) 0 (ci := 3) rfl rfl (As := [.int p2]) rfl hl (rest := [.int r3, .long ((r1 - r2).toInt64)]) rfl (Nat.le_of_ble_eq_true rfl) (st2 := [.int r4, .int r3, .long ((r1 - r2).toInt64)]) rfl dX3_productAt_19 ⟨Nat.le_of_ble_eq_true rfl, Nat.le_of_ble_eq_true rfl⟩ (fun H locs X => ?_)
  clear hcl
  refine lv_isub hx hb dX3_productAt_22 ?_
  refine lv_i2l (v := (r3 - r4).toInt64) hx hb dX3_productAt_23 rfl ?_
  refine lv_lmul hx hb dX3_productAt_24 ?_
  refine lv_aload_n hx hb dX3_productAt_25 rfl (lv_at hl 0 rfl) ?_
  refine lv_iload_n hx hb dX3_productAt_26 rfl (lv_at hl 2 rfl) ?_
  obtain ⟨r5, hcl, hm⟩ := bnd hm
  refine kVW C X (kX3_y l g a p2 u r5 hcl) (cw_X3_productAt_X3_y_46 C) 0 (ci := 3) rfl rfl (As := [.int p2]) rfl hl (rest := [.long (((r1 - r2).toInt64) * ((r3 - r4).toInt64))]) rfl (Nat.le_of_ble_eq_true rfl) (st2 := [.int r5, .long (((r1 - r2).toInt64) * ((r3 - r4).toInt64))]) rfl dX3_productAt_27 ⟨Nat.le_of_ble_eq_true rfl, Nat.le_of_ble_eq_true rfl⟩ (fun H locs X => ?_)
  clear hcl
  refine lv_aload_n hx hb dX3_productAt_30 rfl (lv_at hl 0 rfl) ?_
  refine lv_iload_n hx hb dX3_productAt_31 rfl (lv_at hl 1 rfl) ?_
  obtain ⟨r6, hcl, hm⟩ := bnd hm
  refine kVW C X (kX3_y l g a p1 u r6 hcl) (cw_X3_productAt_X3_y_46 C) 0 (ci := 3) rfl rfl (As := [.int p1]) rfl hl (rest := [.int r5, .long (((r1 - r2).toInt64) * ((r3 - r4).toInt64))]) rfl (Nat.le_of_ble_eq_true rfl) (st2 := [.int r6, .int r5, .long (((r1 - r2).toInt64) * ((r3 - r4).toInt64))]) rfl dX3_productAt_32 ⟨Nat.le_of_ble_eq_true rfl, Nat.le_of_ble_eq_true rfl⟩ (fun H locs X => ?_)
  clear hcl
  refine lv_isub hx hb dX3_productAt_35 ?_
  refine lv_i2l (v := (r5 - r6).toInt64) hx hb dX3_productAt_36 rfl ?_
  refine lv_aload_n hx hb dX3_productAt_37 rfl (lv_at hl 0 rfl) ?_
  refine lv_iload_n hx hb dX3_productAt_38 rfl (lv_at hl 3 rfl) ?_
  obtain ⟨r7, hcl, hm⟩ := bnd hm
  refine kVW C X (kX3_y l g a p3 u r7 hcl) (cw_X3_productAt_X3_y_46 C) 0 (ci := 3) rfl rfl (As := [.int p3]) rfl hl (rest := [.long ((r5 - r6).toInt64), .long (((r1 - r2).toInt64) * ((r3 - r4).toInt64))]) rfl (Nat.le_of_ble_eq_true rfl) (st2 := [.int r7, .long ((r5 - r6).toInt64), .long (((r1 - r2).toInt64) * ((r3 - r4).toInt64))]) rfl dX3_productAt_39 ⟨Nat.le_of_ble_eq_true rfl, Nat.le_of_ble_eq_true rfl⟩ (fun H locs X => ?_)
  clear hcl
  refine lv_aload_n hx hb dX3_productAt_42 rfl (lv_at hl 0 rfl) ?_
  refine lv_iload_n hx hb dX3_productAt_43 rfl (lv_at hl 2 rfl) ?_
  obtain ⟨r8, hcl, hm⟩ := bnd hm
  refine kVW C X (kX3_y l g a p2 u r8 hcl) (cw_X3_productAt_X3_y_46 C) 0 (ci := 3) rfl rfl (As := [.int p2]) rfl hl (rest := [.int r7, .long ((r5 - r6).toInt64), .long (((r1 - r2).toInt64) * ((r3 - r4).toInt64))]) rfl (Nat.le_of_ble_eq_true rfl) (st2 := [.int r8, .int r7, .long ((r5 - r6).toInt64), .long (((r1 - r2).toInt64) * ((r3 - r4).toInt64))]) rfl dX3_productAt_44 ⟨Nat.le_of_ble_eq_true rfl, Nat.le_of_ble_eq_true rfl⟩ (fun H locs X => ?_)
  clear hcl
  refine lv_isub hx hb dX3_productAt_47 ?_
  refine lv_i2l (v := (r7 - r8).toInt64) hx hb dX3_productAt_48 rfl ?_
  refine lv_lmul hx hb dX3_productAt_49 ?_
  refine lv_ladd hx hb dX3_productAt_50 ?_
  cases sm hm
  exact klret C X dX3_productAt_51
-- X3 BrushStrokes$Stroke.sideOf(III)J
abbrev rX3_sideOf : Room := { frames := 1, cells := 0, slots := 0, locals := 22 }
theorem cw_X3_sideOf_X3_y_46 {p : Program} {s : State} {m : MethodId} {args : Array Value} {meth : Method} {c : Code} {g : kG} {A : Nat → Prop} (C : CT g p s m args meth c RX3 cX3_sideOf 4 (some .long) wsX3_sideOf A) : CallW rX3_sideOf s args RX3 RX3 46 yX3_y cX3_y 3 (some .int) wsX3_y rX3_y 0 0 1 := cwV 1 C.2.2.2.2.2.1 gX3_sideOf_X3_y rfl rfl rfl (by decide +kernel) ⟨Nat.le_of_ble_eq_true rfl, Nat.le_of_ble_eq_true rfl⟩
theorem cw_X3_sideOf_X3_x_43 {p : Program} {s : State} {m : MethodId} {args : Array Value} {meth : Method} {c : Code} {g : kG} {A : Nat → Prop} (C : CT g p s m args meth c RX3 cX3_sideOf 4 (some .long) wsX3_sideOf A) : CallW rX3_sideOf s args RX3 RX3 43 yX3_x cX3_x 3 (some .int) wsX3_x rX3_x 0 0 1 := cwV 1 C.2.2.2.2.2.1 gX3_sideOf_X3_x rfl rfl rfl (by decide +kernel) ⟨Nat.le_of_ble_eq_true rfl, Nat.le_of_ble_eq_true rfl⟩
noncomputable def fX3_sideOf (p1 : Int32) (p2 : Int32) (p3 : Int32) (u : SS) : Option (Int64) := (fX3_x p3 u).bind fun r1 => (fX3_x p2 u).bind fun r2 => (fX3_y p1 u).bind fun r3 => (fX3_y p2 u).bind fun r4 => (fX3_y p3 u).bind fun r5 => (fX3_y p2 u).bind fun r6 => (fX3_x p1 u).bind fun r7 => (fX3_x p2 u).bind fun r8 => some ((((r1 - r2).toInt64) * ((r3 - r4).toInt64)) - (((r5 - r6).toInt64) * ((r7 - r8).toInt64)))
set_option maxRecDepth 100000 in
set_option maxHeartbeats 4000000 in
theorem kX3_sideOf (l : Launch) (g : kG) (a : Nat → Nat) (p1 : Int32) (p2 : Int32) (p3 : Int32) (u : SS) (o1 : Int64) (hm : fX3_sideOf p1 p2 p3 u = some o1) : KM l yX3_sideOf wsX3_sideOf rX3_sideOf g [.ref (a 0), .int p1, .int p2, .int p3] (wS g a u) (some (.long o1)) (wS g a u) 0 0 := by
  refine KM.of (nL := 4) (by decide) rfl (Nat.le_of_ble_eq_true rfl) ?_
  intro p e s m args below meth c A ls C X hl
  have C : CT g p s m args meth c RX3 cX3_sideOf 4 (some .long) wsX3_sideOf A := C
  have hx := C.1
  have hb := C.2.1
  have hl : lv_has ls 4 [(0, .ref (a 0)), (1, .int p1), (2, .int p2), (3, .int p3)] := hl
  rw [fX3_sideOf] at hm
  refine lv_aload_n hx hb dX3_sideOf_0 rfl (lv_at hl 0 rfl) ?_
  refine lv_iload_n hx hb dX3_sideOf_1 rfl (lv_at hl 3 rfl) ?_
  obtain ⟨r1, hcl, hm⟩ := bnd hm
  refine kVW C X (kX3_x l g a p3 u r1 hcl) (cw_X3_sideOf_X3_x_43 C) 0 (ci := 3) rfl rfl (As := [.int p3]) rfl hl (rest := []) rfl (Nat.le_of_ble_eq_true rfl) (st2 := [.int r1]) rfl dX3_sideOf_2 ⟨Nat.le_of_ble_eq_true rfl, Nat.le_of_ble_eq_true rfl⟩ (fun H locs X => ?_)
  clear hcl
  refine lv_aload_n hx hb dX3_sideOf_5 rfl (lv_at hl 0 rfl) ?_
  refine lv_iload_n hx hb dX3_sideOf_6 rfl (lv_at hl 2 rfl) ?_
  obtain ⟨r2, hcl, hm⟩ := bnd hm
  refine kVW C X (kX3_x l g a p2 u r2 hcl) (cw_X3_sideOf_X3_x_43 C) 0 (ci := 3) rfl rfl (As := [.int p2]) rfl hl (rest := [.int r1]) rfl (Nat.le_of_ble_eq_true rfl) (st2 := [.int r2, .int r1]) rfl dX3_sideOf_7 ⟨Nat.le_of_ble_eq_true rfl, Nat.le_of_ble_eq_true rfl⟩ (fun H locs X => ?_)
  clear hcl
  refine lv_isub hx hb dX3_sideOf_10 ?_
  refine lv_i2l (v := (r1 - r2).toInt64) hx hb dX3_sideOf_11 rfl ?_
  refine lv_aload_n hx hb dX3_sideOf_12 rfl (lv_at hl 0 rfl) ?_
  refine lv_iload_n hx hb dX3_sideOf_13 rfl (lv_at hl 1 rfl) ?_
  obtain ⟨r3, hcl, hm⟩ := bnd hm
  refine kVW C X (kX3_y l g a p1 u r3 hcl) (cw_X3_sideOf_X3_y_46 C) 0 (ci := 3) rfl rfl (As := [.int p1]) rfl hl (rest := [.long ((r1 - r2).toInt64)]) rfl (Nat.le_of_ble_eq_true rfl) (st2 := [.int r3, .long ((r1 - r2).toInt64)]) rfl dX3_sideOf_14 ⟨Nat.le_of_ble_eq_true rfl, Nat.le_of_ble_eq_true rfl⟩ (fun H locs X => ?_)
  clear hcl
  refine lv_aload_n hx hb dX3_sideOf_17 rfl (lv_at hl 0 rfl) ?_
  refine lv_iload_n hx hb dX3_sideOf_18 rfl (lv_at hl 2 rfl) ?_
  obtain ⟨r4, hcl, hm⟩ := bnd hm
  refine kVW C X (kX3_y l g a p2 u r4 hcl) (cw_X3_sideOf_X3_y_46 C) 0 (ci := 3) rfl rfl (As := [.int p2]) rfl hl (rest := [.int r3, .long ((r1 - r2).toInt64)]) rfl (Nat.le_of_ble_eq_true rfl) (st2 := [.int r4, .int r3, .long ((r1 - r2).toInt64)]) rfl dX3_sideOf_19 ⟨Nat.le_of_ble_eq_true rfl, Nat.le_of_ble_eq_true rfl⟩ (fun H locs X => ?_)
  clear hcl
  refine lv_isub hx hb dX3_sideOf_22 ?_
  refine lv_i2l (v := (r3 - r4).toInt64) hx hb dX3_sideOf_23 rfl ?_
  refine lv_lmul hx hb dX3_sideOf_24 ?_
  refine lv_aload_n hx hb dX3_sideOf_25 rfl (lv_at hl 0 rfl) ?_
  refine lv_iload_n hx hb dX3_sideOf_26 rfl (lv_at hl 3 rfl) ?_
  obtain ⟨r5, hcl, hm⟩ := bnd hm
  refine kVW C X (kX3_y l g a p3 u r5 hcl) (cw_X3_sideOf_X3_y_46 C) 0 (ci := 3) rfl rfl (As := [.int p3]) rfl hl (rest := [.long (((r1 - r2).toInt64) * ((r3 - r4).toInt64))]) rfl (Nat.le_of_ble_eq_true rfl) (st2 := [.int r5, .long (((r1 - r2).toInt64) * ((r3 - r4).toInt64))]) rfl dX3_sideOf_27 ⟨Nat.le_of_ble_eq_true rfl, Nat.le_of_ble_eq_true rfl⟩ (fun H locs X => ?_)
  clear hcl
  refine lv_aload_n hx hb dX3_sideOf_30 rfl (lv_at hl 0 rfl) ?_
  refine lv_iload_n hx hb dX3_sideOf_31 rfl (lv_at hl 2 rfl) ?_
  obtain ⟨r6, hcl, hm⟩ := bnd hm
  refine kVW C X (kX3_y l g a p2 u r6 hcl) (cw_X3_sideOf_X3_y_46 C) 0 (ci := 3) rfl rfl (As := [.int p2]) rfl hl (rest := [.int r5, .long (((r1 - r2).toInt64) * ((r3 - r4).toInt64))]) rfl (Nat.le_of_ble_eq_true rfl) (st2 := [.int r6, .int r5, .long (((r1 - r2).toInt64) * ((r3 - r4).toInt64))]) rfl dX3_sideOf_32 ⟨Nat.le_of_ble_eq_true rfl, Nat.le_of_ble_eq_true rfl⟩ (fun H locs X => ?_)
  clear hcl
  refine lv_isub hx hb dX3_sideOf_35 ?_
  refine lv_i2l (v := (r5 - r6).toInt64) hx hb dX3_sideOf_36 rfl ?_
  refine lv_aload_n hx hb dX3_sideOf_37 rfl (lv_at hl 0 rfl) ?_
  refine lv_iload_n hx hb dX3_sideOf_38 rfl (lv_at hl 1 rfl) ?_
  obtain ⟨r7, hcl, hm⟩ := bnd hm
  refine kVW C X (kX3_x l g a p1 u r7 hcl) (cw_X3_sideOf_X3_x_43 C) 0 (ci := 3) rfl rfl (As := [.int p1]) rfl hl (rest := [.long ((r5 - r6).toInt64), .long (((r1 - r2).toInt64) * ((r3 - r4).toInt64))]) rfl (Nat.le_of_ble_eq_true rfl) (st2 := [.int r7, .long ((r5 - r6).toInt64), .long (((r1 - r2).toInt64) * ((r3 - r4).toInt64))]) rfl dX3_sideOf_39 ⟨Nat.le_of_ble_eq_true rfl, Nat.le_of_ble_eq_true rfl⟩ (fun H locs X => ?_)
  clear hcl
  refine lv_aload_n hx hb dX3_sideOf_42 rfl (lv_at hl 0 rfl) ?_
  refine lv_iload_n hx hb dX3_sideOf_43 rfl (lv_at hl 2 rfl) ?_
  obtain ⟨r8, hcl, hm⟩ := bnd hm
  refine kVW C X (kX3_x l g a p2 u r8 hcl) (cw_X3_sideOf_X3_x_43 C) 0 (ci := 3) rfl rfl (As := [.int p2]) rfl hl (rest := [.int r7, .long ((r5 - r6).toInt64), .long (((r1 - r2).toInt64) * ((r3 - r4).toInt64))]) rfl (Nat.le_of_ble_eq_true rfl) (st2 := [.int r8, .int r7, .long ((r5 - r6).toInt64), .long (((r1 - r2).toInt64) * ((r3 - r4).toInt64))]) rfl dX3_sideOf_44 ⟨Nat.le_of_ble_eq_true rfl, Nat.le_of_ble_eq_true rfl⟩ (fun H locs X => ?_)
  clear hcl
  refine lv_isub hx hb dX3_sideOf_47 ?_
  refine lv_i2l (v := (r7 - r8).toInt64) hx hb dX3_sideOf_48 rfl ?_
  refine lv_lmul hx hb dX3_sideOf_49 ?_
  refine lv_lsub hx hb dX3_sideOf_50 ?_
  cases sm hm
  exact klret C X dX3_sideOf_51
-- X3 BrushStrokes$Stroke.spread(III)J
abbrev rX3_spread : Room := { frames := 1, cells := 0, slots := 0, locals := 23 }
theorem ml_X3_spread_56 : (Cond.methodLink RX3 56 Lib.MathLoose.max_long.x) ∈ wsX3_spread ∧ (Cond.static Lib.MathLoose.max_long.x) ∈ wsX3_spread ∧ (Cond.initialized "java/lang/Math") ∈ wsX3_spread ∧ (Cond.code Lib.MathLoose.max_long.x Lib.MathLoose.max_long.code 4 (some .long)) ∈ wsX3_spread := by decide +kernel
theorem cw_X3_spread_X3_y_46 {p : Program} {s : State} {m : MethodId} {args : Array Value} {meth : Method} {c : Code} {g : kG} {A : Nat → Prop} (C : CT g p s m args meth c RX3 cX3_spread 16 (some .long) wsX3_spread A) : CallW rX3_spread s args RX3 RX3 46 yX3_y cX3_y 3 (some .int) wsX3_y rX3_y 0 0 1 := cwV 1 C.2.2.2.2.2.1 gX3_spread_X3_y rfl rfl rfl (by decide +kernel) ⟨Nat.le_of_ble_eq_true rfl, Nat.le_of_ble_eq_true rfl⟩
theorem cw_X3_spread_X3_x_43 {p : Program} {s : State} {m : MethodId} {args : Array Value} {meth : Method} {c : Code} {g : kG} {A : Nat → Prop} (C : CT g p s m args meth c RX3 cX3_spread 16 (some .long) wsX3_spread A) : CallW rX3_spread s args RX3 RX3 43 yX3_x cX3_x 3 (some .int) wsX3_x rX3_x 0 0 1 := cwV 1 C.2.2.2.2.2.1 gX3_spread_X3_x rfl rfl rfl (by decide +kernel) ⟨Nat.le_of_ble_eq_true rfl, Nat.le_of_ble_eq_true rfl⟩
noncomputable def fX3_spread (p1 : Int32) (p2 : Int32) (p3 : Int32) (u : SS) : Option (Int64) := (fX3_x p1 u).bind fun r1 => (fX3_x p2 u).bind fun r2 => (fX3_y p1 u).bind fun r3 => (fX3_y p2 u).bind fun r4 => (fX3_x p3 u).bind fun r5 => (fX3_x p2 u).bind fun r6 => (fX3_y p3 u).bind fun r7 => (fX3_y p2 u).bind fun r8 => lt ((((r1 - r2).toInt64) * ((r5 - r6).toInt64)) + (((r3 - r4).toInt64) * ((r7 - r8).toInt64))) fun x9 => lt ((((r5 - r6).toInt64) * ((r5 - r6).toInt64)) + (((r7 - r8).toInt64) * ((r7 - r8).toInt64))) fun x10 => if 0 < x9 then (if x9 < x10 then (some (((((r1 - r2).toInt64) * ((r7 - r8).toInt64)) - (((r3 - r4).toInt64) * ((r5 - r6).toInt64))) * ((((r1 - r2).toInt64) * ((r7 - r8).toInt64)) - (((r3 - r4).toInt64) * ((r5 - r6).toInt64))))) else (some ((((((r1 - r2).toInt64) - ((r5 - r6).toInt64)) * (((r1 - r2).toInt64) - ((r5 - r6).toInt64))) + ((((r3 - r4).toInt64) - ((r7 - r8).toInt64)) * (((r3 - r4).toInt64) - ((r7 - r8).toInt64)))) * x10))) else (some (((((r1 - r2).toInt64) * ((r1 - r2).toInt64)) + (((r3 - r4).toInt64) * ((r3 - r4).toInt64))) * (if 1 < x10 then x10 else 1)))
set_option maxRecDepth 100000 in
set_option maxHeartbeats 4000000 in
theorem kX3_spread (l : Launch) (g : kG) (a : Nat → Nat) (p1 : Int32) (p2 : Int32) (p3 : Int32) (u : SS) (o1 : Int64) (hm : fX3_spread p1 p2 p3 u = some o1) : KM l yX3_spread wsX3_spread rX3_spread g [.ref (a 0), .int p1, .int p2, .int p3] (wS g a u) (some (.long o1)) (wS g a u) 0 0 := by
  refine KM.of (nL := 16) (by decide) rfl (Nat.le_of_ble_eq_true rfl) ?_
  intro p e s m args below meth c A ls C X hl
  have C : CT g p s m args meth c RX3 cX3_spread 16 (some .long) wsX3_spread A := C
  have hx := C.1
  have hb := C.2.1
  have hl : lv_has ls 16 [(0, .ref (a 0)), (1, .int p1), (2, .int p2), (3, .int p3)] := hl
  rw [fX3_spread] at hm
  refine lv_aload_n hx hb dX3_spread_0 rfl (lv_at hl 0 rfl) ?_
  refine lv_iload_n hx hb dX3_spread_1 rfl (lv_at hl 1 rfl) ?_
  obtain ⟨r1, hcl, hm⟩ := bnd hm
  refine kVW C X (kX3_x l g a p1 u r1 hcl) (cw_X3_spread_X3_x_43 C) 0 (ci := 3) rfl rfl (As := [.int p1]) rfl hl (rest := []) rfl (Nat.le_of_ble_eq_true rfl) (st2 := [.int r1]) rfl dX3_spread_2 ⟨Nat.le_of_ble_eq_true rfl, Nat.le_of_ble_eq_true rfl⟩ (fun H locs X => ?_)
  clear hcl
  refine lv_aload_n hx hb dX3_spread_5 rfl (lv_at hl 0 rfl) ?_
  refine lv_iload_n hx hb dX3_spread_6 rfl (lv_at hl 2 rfl) ?_
  obtain ⟨r2, hcl, hm⟩ := bnd hm
  refine kVW C X (kX3_x l g a p2 u r2 hcl) (cw_X3_spread_X3_x_43 C) 0 (ci := 3) rfl rfl (As := [.int p2]) rfl hl (rest := [.int r1]) rfl (Nat.le_of_ble_eq_true rfl) (st2 := [.int r2, .int r1]) rfl dX3_spread_7 ⟨Nat.le_of_ble_eq_true rfl, Nat.le_of_ble_eq_true rfl⟩ (fun H locs X => ?_)
  clear hcl
  refine lv_isub hx hb dX3_spread_10 ?_
  refine lv_i2l (v := (r1 - r2).toInt64) hx hb dX3_spread_11 rfl ?_
  refine lv_lstore (lv' := [(4, .long ((r1 - r2).toInt64)), (0, .ref (a 0)), (1, .int p1), (2, .int p2), (3, .int p3)]) hx hb dX3_spread_12 hl (by decide) rfl (fun ls hl => ?_)
  refine lv_aload_n hx hb dX3_spread_14 rfl (lv_at hl 1 rfl) ?_
  refine lv_iload_n hx hb dX3_spread_15 rfl (lv_at hl 2 rfl) ?_
  obtain ⟨r3, hcl, hm⟩ := bnd hm
  refine kVW C X (kX3_y l g a p1 u r3 hcl) (cw_X3_spread_X3_y_46 C) 0 (ci := 3) rfl rfl (As := [.int p1]) rfl hl (rest := []) rfl (Nat.le_of_ble_eq_true rfl) (st2 := [.int r3]) rfl dX3_spread_16 ⟨Nat.le_of_ble_eq_true rfl, Nat.le_of_ble_eq_true rfl⟩ (fun H locs X => ?_)
  clear hcl
  refine lv_aload_n hx hb dX3_spread_19 rfl (lv_at hl 1 rfl) ?_
  refine lv_iload_n hx hb dX3_spread_20 rfl (lv_at hl 3 rfl) ?_
  obtain ⟨r4, hcl, hm⟩ := bnd hm
  refine kVW C X (kX3_y l g a p2 u r4 hcl) (cw_X3_spread_X3_y_46 C) 0 (ci := 3) rfl rfl (As := [.int p2]) rfl hl (rest := [.int r3]) rfl (Nat.le_of_ble_eq_true rfl) (st2 := [.int r4, .int r3]) rfl dX3_spread_21 ⟨Nat.le_of_ble_eq_true rfl, Nat.le_of_ble_eq_true rfl⟩ (fun H locs X => ?_)
  clear hcl
  refine lv_isub hx hb dX3_spread_24 ?_
  refine lv_i2l (v := (r3 - r4).toInt64) hx hb dX3_spread_25 rfl ?_
  refine lv_lstore (lv' := [(6, .long ((r3 - r4).toInt64)), (4, .long ((r1 - r2).toInt64)), (0, .ref (a 0)), (1, .int p1), (2, .int p2), (3, .int p3)]) hx hb dX3_spread_26 hl (by decide) rfl (fun ls hl => ?_)
  refine lv_aload_n hx hb dX3_spread_28 rfl (lv_at hl 2 rfl) ?_
  refine lv_iload_n hx hb dX3_spread_29 rfl (lv_at hl 5 rfl) ?_
  obtain ⟨r5, hcl, hm⟩ := bnd hm
  refine kVW C X (kX3_x l g a p3 u r5 hcl) (cw_X3_spread_X3_x_43 C) 0 (ci := 3) rfl rfl (As := [.int p3]) rfl hl (rest := []) rfl (Nat.le_of_ble_eq_true rfl) (st2 := [.int r5]) rfl dX3_spread_30 ⟨Nat.le_of_ble_eq_true rfl, Nat.le_of_ble_eq_true rfl⟩ (fun H locs X => ?_)
  clear hcl
  refine lv_aload_n hx hb dX3_spread_33 rfl (lv_at hl 2 rfl) ?_
  refine lv_iload_n hx hb dX3_spread_34 rfl (lv_at hl 4 rfl) ?_
  obtain ⟨r6, hcl, hm⟩ := bnd hm
  refine kVW C X (kX3_x l g a p2 u r6 hcl) (cw_X3_spread_X3_x_43 C) 0 (ci := 3) rfl rfl (As := [.int p2]) rfl hl (rest := [.int r5]) rfl (Nat.le_of_ble_eq_true rfl) (st2 := [.int r6, .int r5]) rfl dX3_spread_35 ⟨Nat.le_of_ble_eq_true rfl, Nat.le_of_ble_eq_true rfl⟩ (fun H locs X => ?_)
  clear hcl
  refine lv_isub hx hb dX3_spread_38 ?_
  refine lv_i2l (v := (r5 - r6).toInt64) hx hb dX3_spread_39 rfl ?_
  refine lv_lstore (lv' := [(8, .long ((r5 - r6).toInt64)), (6, .long ((r3 - r4).toInt64)), (4, .long ((r1 - r2).toInt64)), (0, .ref (a 0)), (1, .int p1), (2, .int p2), (3, .int p3)]) hx hb dX3_spread_40 hl (by decide) rfl (fun ls hl => ?_)
  refine lv_aload_n hx hb dX3_spread_42 rfl (lv_at hl 3 rfl) ?_
  refine lv_iload_n hx hb dX3_spread_43 rfl (lv_at hl 6 rfl) ?_
  obtain ⟨r7, hcl, hm⟩ := bnd hm
  refine kVW C X (kX3_y l g a p3 u r7 hcl) (cw_X3_spread_X3_y_46 C) 0 (ci := 3) rfl rfl (As := [.int p3]) rfl hl (rest := []) rfl (Nat.le_of_ble_eq_true rfl) (st2 := [.int r7]) rfl dX3_spread_44 ⟨Nat.le_of_ble_eq_true rfl, Nat.le_of_ble_eq_true rfl⟩ (fun H locs X => ?_)
  clear hcl
  refine lv_aload_n hx hb dX3_spread_47 rfl (lv_at hl 3 rfl) ?_
  refine lv_iload_n hx hb dX3_spread_48 rfl (lv_at hl 5 rfl) ?_
  obtain ⟨r8, hcl, hm⟩ := bnd hm
  refine kVW C X (kX3_y l g a p2 u r8 hcl) (cw_X3_spread_X3_y_46 C) 0 (ci := 3) rfl rfl (As := [.int p2]) rfl hl (rest := [.int r7]) rfl (Nat.le_of_ble_eq_true rfl) (st2 := [.int r8, .int r7]) rfl dX3_spread_49 ⟨Nat.le_of_ble_eq_true rfl, Nat.le_of_ble_eq_true rfl⟩ (fun H locs X => ?_)
  clear hcl
  refine lv_isub hx hb dX3_spread_52 ?_
  refine lv_i2l (v := (r7 - r8).toInt64) hx hb dX3_spread_53 rfl ?_
  refine lv_lstore (lv' := [(10, .long ((r7 - r8).toInt64)), (8, .long ((r5 - r6).toInt64)), (6, .long ((r3 - r4).toInt64)), (4, .long ((r1 - r2).toInt64)), (0, .ref (a 0)), (1, .int p1), (2, .int p2), (3, .int p3)]) hx hb dX3_spread_54 hl (by decide) rfl (fun ls hl => ?_)
  refine lv_lload hx hb dX3_spread_56 (lv_at hl 3 rfl) ?_
  refine lv_lload hx hb dX3_spread_58 (lv_at hl 1 rfl) ?_
  refine lv_lmul hx hb dX3_spread_60 ?_
  refine lv_lload hx hb dX3_spread_61 (lv_at hl 2 rfl) ?_
  refine lv_lload hx hb dX3_spread_63 (lv_at hl 0 rfl) ?_
  refine lv_lmul hx hb dX3_spread_65 ?_
  refine lv_ladd hx hb dX3_spread_66 ?_
  refine lv_topl (fun x9 ex => ?_)
  have hm := lt_t ex hm
  clear ex
  refine lv_lstore (lv' := [(12, .long x9), (10, .long ((r7 - r8).toInt64)), (8, .long ((r5 - r6).toInt64)), (6, .long ((r3 - r4).toInt64)), (4, .long ((r1 - r2).toInt64)), (0, .ref (a 0)), (1, .int p1), (2, .int p2), (3, .int p3)]) hx hb dX3_spread_67 hl (by decide) rfl (fun ls hl => ?_)
  refine lv_lload hx hb dX3_spread_69 (lv_at hl 2 rfl) ?_
  refine lv_lload hx hb dX3_spread_71 (lv_at hl 2 rfl) ?_
  refine lv_lmul hx hb dX3_spread_73 ?_
  refine lv_lload hx hb dX3_spread_74 (lv_at hl 1 rfl) ?_
  refine lv_lload hx hb dX3_spread_76 (lv_at hl 1 rfl) ?_
  refine lv_lmul hx hb dX3_spread_78 ?_
  refine lv_ladd hx hb dX3_spread_79 ?_
  refine lv_topl (fun x10 ex => ?_)
  have hm := lt_t ex hm
  clear ex
  refine lv_lstore (lv' := [(14, .long x10), (12, .long x9), (10, .long ((r7 - r8).toInt64)), (8, .long ((r5 - r6).toInt64)), (6, .long ((r3 - r4).toInt64)), (4, .long ((r1 - r2).toInt64)), (0, .ref (a 0)), (1, .int p1), (2, .int p2), (3, .int p3)]) hx hb dX3_spread_80 hl (by decide) rfl (fun ls hl => ?_)
  refine lv_lload hx hb dX3_spread_82 (lv_at hl 1 rfl) ?_
  refine lv_lconst (v := 0) hx hb dX3_spread_84 (by decide) ?_
  refine klcmp_gt (tgt := 108) hx hb dX3_spread_85 dX3_spread_86 (by decide) (fun hc => ?_) (fun hc => ?_)
  · have hm := ifp hc hm
    refine lv_lload hx hb dX3_spread_108 (lv_at hl 1 rfl) ?_
    refine lv_lload hx hb dX3_spread_110 (lv_at hl 0 rfl) ?_
    refine klcmp_lt (tgt := 143) hx hb dX3_spread_112 dX3_spread_113 (by decide) (fun hc => ?_) (fun hc => ?_)
    · have hm := ifp hc hm
      refine lv_lload hx hb dX3_spread_143 (lv_at hl 5 rfl) ?_
      refine lv_lload hx hb dX3_spread_145 (lv_at hl 2 rfl) ?_
      refine lv_lmul hx hb dX3_spread_147 ?_
      refine lv_lload hx hb dX3_spread_148 (lv_at hl 4 rfl) ?_
      refine lv_lload hx hb dX3_spread_150 (lv_at hl 3 rfl) ?_
      refine lv_lmul hx hb dX3_spread_152 ?_
      refine lv_lsub hx hb dX3_spread_153 ?_
      refine lv_lload hx hb dX3_spread_154 (lv_at hl 5 rfl) ?_
      refine lv_lload hx hb dX3_spread_156 (lv_at hl 2 rfl) ?_
      refine lv_lmul hx hb dX3_spread_158 ?_
      refine lv_lload hx hb dX3_spread_159 (lv_at hl 4 rfl) ?_
      refine lv_lload hx hb dX3_spread_161 (lv_at hl 3 rfl) ?_
      refine lv_lmul hx hb dX3_spread_163 ?_
      refine lv_lsub hx hb dX3_spread_164 ?_
      refine lv_lmul hx hb dX3_spread_165 ?_
      cases sm hm
      exact klret C X dX3_spread_166
    · have hm := ifn hc hm
      refine lv_lload hx hb dX3_spread_116 (lv_at hl 5 rfl) ?_
      refine lv_lload hx hb dX3_spread_118 (lv_at hl 3 rfl) ?_
      refine lv_lsub hx hb dX3_spread_120 ?_
      refine lv_lload hx hb dX3_spread_121 (lv_at hl 5 rfl) ?_
      refine lv_lload hx hb dX3_spread_123 (lv_at hl 3 rfl) ?_
      refine lv_lsub hx hb dX3_spread_125 ?_
      refine lv_lmul hx hb dX3_spread_126 ?_
      refine lv_lload hx hb dX3_spread_127 (lv_at hl 4 rfl) ?_
      refine lv_lload hx hb dX3_spread_129 (lv_at hl 2 rfl) ?_
      refine lv_lsub hx hb dX3_spread_131 ?_
      refine lv_lload hx hb dX3_spread_132 (lv_at hl 4 rfl) ?_
      refine lv_lload hx hb dX3_spread_134 (lv_at hl 2 rfl) ?_
      refine lv_lsub hx hb dX3_spread_136 ?_
      refine lv_lmul hx hb dX3_spread_137 ?_
      refine lv_ladd hx hb dX3_spread_138 ?_
      refine lv_lload hx hb dX3_spread_139 (lv_at hl 0 rfl) ?_
      refine lv_lmul hx hb dX3_spread_141 ?_
      cases sm hm
      exact klret C X dX3_spread_142
  · have hm := ifn hc hm
    refine lv_lload hx hb dX3_spread_89 (lv_at hl 5 rfl) ?_
    refine lv_lload hx hb dX3_spread_91 (lv_at hl 5 rfl) ?_
    refine lv_lmul hx hb dX3_spread_93 ?_
    refine lv_lload hx hb dX3_spread_94 (lv_at hl 4 rfl) ?_
    refine lv_lload hx hb dX3_spread_96 (lv_at hl 4 rfl) ?_
    refine lv_lmul hx hb dX3_spread_98 ?_
    refine lv_ladd hx hb dX3_spread_99 ?_
    refine lv_lload hx hb dX3_spread_100 (lv_at hl 0 rfl) ?_
    refine lv_lconst (v := 1) hx hb dX3_spread_102 (by decide) ?_
    refine va_mmax_long hx hb (C.2.2.2.1.trans hl.1.symm) C.2.2.2.2.1 (C.2.2.2.2.2.1 _ ml_X3_spread_56.1) (C.2.2.2.2.2.1 _ ml_X3_spread_56.2.1) (C.2.2.2.2.2.1 _ ml_X3_spread_56.2.2.1) (C.2.2.2.2.2.1 _ ml_X3_spread_56.2.2.2) (Nat.le_of_ble_eq_true rfl) (Nat.le_of_ble_eq_true rfl) (Nat.le_of_ble_eq_true rfl) (Nat.le_of_ble_eq_true rfl) dX3_spread_103 ?_
    refine lv_lmul hx hb dX3_spread_106 ?_
    cases sm hm
    exact klret C X dX3_spread_107
-- X3 BrushStrokes$Stroke.scale(II)J
abbrev rX3_scale : Room := { frames := 2, cells := 0, slots := 0, locals := 48 }
theorem ml_X3_scale_56 : (Cond.methodLink RX3 56 Lib.MathLoose.max_long.x) ∈ wsX3_scale ∧ (Cond.static Lib.MathLoose.max_long.x) ∈ wsX3_scale ∧ (Cond.initialized "java/lang/Math") ∈ wsX3_scale ∧ (Cond.code Lib.MathLoose.max_long.x Lib.MathLoose.max_long.code 4 (some .long)) ∈ wsX3_scale := by decide +kernel
theorem cw_X3_scale_X3_square_62 {p : Program} {s : State} {m : MethodId} {args : Array Value} {meth : Method} {c : Code} {g : kG} {A : Nat → Prop} (C : CT g p s m args meth c RX3 cX3_scale 3 (some .long) wsX3_scale A) : CallW rX3_scale s args RX3 RX3 62 yX3_square cX3_square 7 (some .long) wsX3_square rX3_square 0 0 2 := cwV 2 C.2.2.2.2.2.1 gX3_scale_X3_square rfl rfl rfl (by decide +kernel) ⟨Nat.le_of_ble_eq_true rfl, Nat.le_of_ble_eq_true rfl⟩
noncomputable def fX3_scale (p1 : Int32) (p2 : Int32) (u : SS) : Option (Int64) := (fX3_square p1 p2 u).bind fun r1 => some (if 1 < r1 then r1 else 1)
set_option maxRecDepth 100000 in
set_option maxHeartbeats 4000000 in
theorem kX3_scale (l : Launch) (g : kG) (a : Nat → Nat) (p1 : Int32) (p2 : Int32) (u : SS) (o1 : Int64) (hm : fX3_scale p1 p2 u = some o1) : KM l yX3_scale wsX3_scale rX3_scale g [.ref (a 0), .int p1, .int p2] (wS g a u) (some (.long o1)) (wS g a u) 0 0 := by
  refine KM.of (nL := 3) (by decide) rfl (Nat.le_of_ble_eq_true rfl) ?_
  intro p e s m args below meth c A ls C X hl
  have C : CT g p s m args meth c RX3 cX3_scale 3 (some .long) wsX3_scale A := C
  have hx := C.1
  have hb := C.2.1
  have hl : lv_has ls 3 [(0, .ref (a 0)), (1, .int p1), (2, .int p2)] := hl
  rw [fX3_scale] at hm
  refine lv_aload_n hx hb dX3_scale_0 rfl (lv_at hl 0 rfl) ?_
  refine lv_iload_n hx hb dX3_scale_1 rfl (lv_at hl 1 rfl) ?_
  refine lv_iload_n hx hb dX3_scale_2 rfl (lv_at hl 2 rfl) ?_
  obtain ⟨r1, hcl, hm⟩ := bnd hm
  refine kVW C X (kX3_square l g a p1 p2 u r1 hcl) (cw_X3_scale_X3_square_62 C) 0 (ci := 3) rfl rfl (As := [.int p1, .int p2]) rfl hl (rest := []) rfl (Nat.le_of_ble_eq_true rfl) (st2 := [.long r1]) rfl dX3_scale_3 ⟨Nat.le_of_ble_eq_true rfl, Nat.le_of_ble_eq_true rfl⟩ (fun H locs X => ?_)
  clear hcl
  refine lv_lconst (v := 1) hx hb dX3_scale_6 (by decide) ?_
  refine va_mmax_long hx hb (C.2.2.2.1.trans hl.1.symm) C.2.2.2.2.1 (C.2.2.2.2.2.1 _ ml_X3_scale_56.1) (C.2.2.2.2.2.1 _ ml_X3_scale_56.2.1) (C.2.2.2.2.2.1 _ ml_X3_scale_56.2.2.1) (C.2.2.2.2.2.1 _ ml_X3_scale_56.2.2.2) (Nat.le_of_ble_eq_true rfl) (Nat.le_of_ble_eq_true rfl) (Nat.le_of_ble_eq_true rfl) (Nat.le_of_ble_eq_true rfl) dX3_scale_7 ?_
  cases sm hm
  exact klret C X dX3_scale_10
-- X3 BrushStrokes$Stroke.hundredths(III)I
abbrev rX3_hundredths : Room := { frames := 3, cells := 0, slots := 0, locals := 70 }
theorem cw_X3_hundredths_X3_spread_71 {p : Program} {s : State} {m : MethodId} {args : Array Value} {meth : Method} {c : Code} {g : kG} {A : Nat → Prop} (C : CT g p s m args meth c RX3 cX3_hundredths 6 (some .int) wsX3_hundredths A) : CallW rX3_hundredths s args RX3 RX3 71 yX3_spread cX3_spread 16 (some .long) wsX3_spread rX3_spread 0 0 3 := cwV 3 C.2.2.2.2.2.1 gX3_hundredths_X3_spread rfl rfl rfl (by decide +kernel) ⟨Nat.le_of_ble_eq_true rfl, Nat.le_of_ble_eq_true rfl⟩
theorem cw_X3_hundredths_X3_scale_66 {p : Program} {s : State} {m : MethodId} {args : Array Value} {meth : Method} {c : Code} {g : kG} {A : Nat → Prop} (C : CT g p s m args meth c RX3 cX3_hundredths 6 (some .int) wsX3_hundredths A) : CallW rX3_hundredths s args RX3 RX3 66 yX3_scale cX3_scale 3 (some .long) wsX3_scale rX3_scale 0 0 2 := cwV 2 C.2.2.2.2.2.1 gX3_hundredths_X3_scale rfl rfl rfl (by decide +kernel) ⟨Nat.le_of_ble_eq_true rfl, Nat.le_of_ble_eq_true rfl⟩
theorem cw_X3_hundredths_X5_root_75 {p : Program} {s : State} {m : MethodId} {args : Array Value} {meth : Method} {c : Code} {g : kG} {A : Nat → Prop} (C : CT g p s m args meth c RX3 cX3_hundredths 6 (some .int) wsX3_hundredths A) : va_CN rX3_hundredths s args RX3 75 yX5_root RX5 cX5_root 6 (some .int) wsX5_root rX5_root 0 0 1 ∧ (Cond.static yX5_root).before args s = true ∧ True := ⟨va_cnB 1 C.2.2.2.2.2.1 gX3_hundredths_X5_root_n75 rfl rfl rfl (C.2.2.2.2.2.2.2.1.2.1.1 (RX3, 75, yX5_root, RX5) (by decide +kernel)) (C.2.2.2.2.2.1 (.initialized RX5) (by decide +kernel)) (by decide +kernel) ⟨Nat.le_of_ble_eq_true rfl, Nat.le_of_ble_eq_true rfl⟩, C.2.2.2.2.2.1 (.static yX5_root) (by decide +kernel), trivial⟩
noncomputable def fX3_hundredths (p1 : Int32) (p2 : Int32) (p3 : Int32) (u : SS) : Option (Int32) := (fX3_scale p2 p3 u).bind fun r1 => if 0 < r1 then ((fX3_spread p1 p2 p3 u).bind fun r2 => gd (decide (¬ r1 = 0)) ((fX5_root ((10000 * r2) / r1)).bind fun r3 => some r3)) else (some 0)
set_option maxRecDepth 100000 in
set_option maxHeartbeats 4000000 in
theorem kX3_hundredths (l : Launch) (g : kG) (a : Nat → Nat) (p1 : Int32) (p2 : Int32) (p3 : Int32) (u : SS) (o1 : Int32) (hm : fX3_hundredths p1 p2 p3 u = some o1) : KM l yX3_hundredths wsX3_hundredths rX3_hundredths g [.ref (a 0), .int p1, .int p2, .int p3] (wS g a u) (some (.int o1)) (wS g a u) 0 0 := by
  refine KM.of (nL := 6) (by decide) rfl (Nat.le_of_ble_eq_true rfl) ?_
  intro p e s m args below meth c A ls C X hl
  have C : CT g p s m args meth c RX3 cX3_hundredths 6 (some .int) wsX3_hundredths A := C
  have hx := C.1
  have hb := C.2.1
  have hl : lv_has ls 6 [(0, .ref (a 0)), (1, .int p1), (2, .int p2), (3, .int p3)] := hl
  rw [fX3_hundredths] at hm
  refine lv_aload_n hx hb dX3_hundredths_0 rfl (lv_at hl 0 rfl) ?_
  refine lv_iload_n hx hb dX3_hundredths_1 rfl (lv_at hl 2 rfl) ?_
  refine lv_iload_n hx hb dX3_hundredths_2 rfl (lv_at hl 3 rfl) ?_
  obtain ⟨r1, hcl, hm⟩ := bnd hm
  refine kVW C X (kX3_scale l g a p2 p3 u r1 hcl) (cw_X3_hundredths_X3_scale_66 C) 0 (ci := 3) rfl rfl (As := [.int p2, .int p3]) rfl hl (rest := []) rfl (Nat.le_of_ble_eq_true rfl) (st2 := [.long r1]) rfl dX3_hundredths_3 ⟨Nat.le_of_ble_eq_true rfl, Nat.le_of_ble_eq_true rfl⟩ (fun H locs X => ?_)
  clear hcl
  refine lv_lstore (lv' := [(4, .long r1), (0, .ref (a 0)), (1, .int p1), (2, .int p2), (3, .int p3)]) hx hb dX3_hundredths_6 hl (by decide) rfl (fun ls hl => ?_)
  refine lv_lload hx hb dX3_hundredths_8 (lv_at hl 0 rfl) ?_
  refine lv_lconst (v := 0) hx hb dX3_hundredths_10 (by decide) ?_
  refine klcmp_gt (tgt := 17) hx hb dX3_hundredths_11 dX3_hundredths_12 (by decide) (fun hc => ?_) (fun hc => ?_)
  · have hm := ifp hc hm
    refine lv_ldc2 (v := 10000) hx hb C.2.2.2.2.1 (C.2.2.2.2.2.1 (.constantLong RX3 69 10000) (by decide +kernel)) dX3_hundredths_17 ?_
    refine lv_aload_n hx hb dX3_hundredths_20 rfl (lv_at hl 1 rfl) ?_
    refine lv_iload_n hx hb dX3_hundredths_21 rfl (lv_at hl 2 rfl) ?_
    refine lv_iload_n hx hb dX3_hundredths_22 rfl (lv_at hl 3 rfl) ?_
    refine lv_iload_n hx hb dX3_hundredths_23 rfl (lv_at hl 4 rfl) ?_
    obtain ⟨r2, hcl, hm⟩ := bnd hm
    refine kVW C X (kX3_spread l g a p1 p2 p3 u r2 hcl) (cw_X3_hundredths_X3_spread_71 C) 0 (ci := 3) rfl rfl (As := [.int p1, .int p2, .int p3]) rfl hl (rest := [.long 10000]) rfl (Nat.le_of_ble_eq_true rfl) (st2 := [.long r2, .long 10000]) rfl dX3_hundredths_24 ⟨Nat.le_of_ble_eq_true rfl, Nat.le_of_ble_eq_true rfl⟩ (fun H locs X => ?_)
    clear hcl
    refine lv_lmul hx hb dX3_hundredths_27 ?_
    refine lv_lload hx hb dX3_hundredths_28 (lv_at hl 0 rfl) ?_
    obtain ⟨hgv, hm⟩ := gd_t hm
    refine lv_ldiv hx hb dX3_hundredths_30 (of_decide_eq_true hgv) ?_
    obtain ⟨r3, hcl, hm⟩ := bnd hm
    refine kN0 C X (kX5_root l g ((10000 * r2) / r1) r3 hcl) (cw_X3_hundredths_X5_root_75 C) (As := [.long ((10000 * r2) / r1)]) rfl hl (rest := []) rfl (Nat.le_of_ble_eq_true rfl) (st2 := [.int r3]) rfl dX3_hundredths_31 ⟨Nat.le_of_ble_eq_true rfl, Nat.le_of_ble_eq_true rfl⟩ (fun H locs X => ?_)
    clear hcl
    cases sm hm
    exact kiret C X dX3_hundredths_34
  · have hm := ifn hc hm
    refine lv_iconst (v := 0) hx hb dX3_hundredths_15 (by decide) ?_
    cases sm hm
    exact kiret C X dX3_hundredths_16
-- X3 BrushStrokes$Stroke.stray(I)I
abbrev rX3_stray : Room := { frames := 4, cells := 0, slots := 0, locals := 95 }
theorem cw_X3_stray_X3_keptBefore_79 {p : Program} {s : State} {m : MethodId} {args : Array Value} {meth : Method} {c : Code} {g : kG} {A : Nat → Prop} (C : CT g p s m args meth c RX3 cX3_stray 2 (some .int) wsX3_stray A) : CallW rX3_stray s args RX3 RX3 79 yX3_keptBefore cX3_keptBefore 3 (some .int) wsX3_keptBefore rX3_keptBefore 0 0 1 := cwV 1 C.2.2.2.2.2.1 gX3_stray_X3_keptBefore rfl rfl rfl (by decide +kernel) ⟨Nat.le_of_ble_eq_true rfl, Nat.le_of_ble_eq_true rfl⟩
theorem cw_X3_stray_X3_isKept_52 {p : Program} {s : State} {m : MethodId} {args : Array Value} {meth : Method} {c : Code} {g : kG} {A : Nat → Prop} (C : CT g p s m args meth c RX3 cX3_stray 2 (some .int) wsX3_stray A) : CallW rX3_stray s args RX3 RX3 52 yX3_isKept cX3_isKept 2 (some .boolean) wsX3_isKept rX3_isKept 0 0 1 := cwV 1 C.2.2.2.2.2.1 gX3_stray_X3_isKept rfl rfl rfl (by decide +kernel) ⟨Nat.le_of_ble_eq_true rfl, Nat.le_of_ble_eq_true rfl⟩
theorem cw_X3_stray_X3_keptBehind_82 {p : Program} {s : State} {m : MethodId} {args : Array Value} {meth : Method} {c : Code} {g : kG} {A : Nat → Prop} (C : CT g p s m args meth c RX3 cX3_stray 2 (some .int) wsX3_stray A) : CallW rX3_stray s args RX3 RX3 82 yX3_keptBehind cX3_keptBehind 3 (some .int) wsX3_keptBehind rX3_keptBehind 0 0 1 := cwV 1 C.2.2.2.2.2.1 gX3_stray_X3_keptBehind rfl rfl rfl (by decide +kernel) ⟨Nat.le_of_ble_eq_true rfl, Nat.le_of_ble_eq_true rfl⟩
theorem cw_X3_stray_X3_hundredths_85 {p : Program} {s : State} {m : MethodId} {args : Array Value} {meth : Method} {c : Code} {g : kG} {A : Nat → Prop} (C : CT g p s m args meth c RX3 cX3_stray 2 (some .int) wsX3_stray A) : CallW rX3_stray s args RX3 RX3 85 yX3_hundredths cX3_hundredths 6 (some .int) wsX3_hundredths rX3_hundredths 0 0 3 := cwV 3 C.2.2.2.2.2.1 gX3_stray_X3_hundredths rfl rfl rfl (by decide +kernel) ⟨Nat.le_of_ble_eq_true rfl, Nat.le_of_ble_eq_true rfl⟩
noncomputable def fX3_stray (p1 : Int32) (u : SS) : Option (Int32) := (fX3_isKept p1 u).bind fun r1 => (if r1 = 0 then ((fX3_keptBefore p1 u).bind fun r6 => (fX3_keptBehind p1 u).bind fun r7 => (fX3_hundredths p1 r6 r7 u).bind fun r8 => some r8) else (some 0)).bind fun v5 => some v5
set_option maxRecDepth 100000 in
set_option maxHeartbeats 4000000 in
theorem kX3_stray (l : Launch) (g : kG) (a : Nat → Nat) (p1 : Int32) (u : SS) (o1 : Int32) (hm : fX3_stray p1 u = some o1) : KM l yX3_stray wsX3_stray rX3_stray g [.ref (a 0), .int p1] (wS g a u) (some (.int o1)) (wS g a u) 0 0 := by
  refine KM.of (nL := 2) (by decide) rfl (Nat.le_of_ble_eq_true rfl) ?_
  intro p e s m args below meth c A ls C X hl
  have C : CT g p s m args meth c RX3 cX3_stray 2 (some .int) wsX3_stray A := C
  have hx := C.1
  have hb := C.2.1
  have hl : lv_has ls 2 [(0, .ref (a 0)), (1, .int p1)] := hl
  rw [fX3_stray] at hm
  refine lv_aload_n hx hb dX3_stray_0 rfl (lv_at hl 0 rfl) ?_
  refine lv_iload_n hx hb dX3_stray_1 rfl (lv_at hl 1 rfl) ?_
  obtain ⟨r1, hcl, hm⟩ := bnd hm
  refine kVW C X (kX3_isKept l g a p1 u r1 hcl) (cw_X3_stray_X3_isKept_52 C) 0 (ci := 3) rfl rfl (As := [.int p1]) rfl hl (rest := []) rfl (Nat.le_of_ble_eq_true rfl) (st2 := [.int r1]) rfl dX3_stray_2 ⟨Nat.le_of_ble_eq_true rfl, Nat.le_of_ble_eq_true rfl⟩ (fun H locs X => ?_)
  clear hcl
  obtain ⟨v5, hE, hm⟩ := bnd hm
  have K : ∀ (H : Heap) (locs : List Loc) (ls : Array Slot), ST g A s H locs (wS g a u) → lv_has ls 2 [] → W p l e rX3_stray s m args below meth c H locs 0 0 (kEnd g below args s (some (.int o1)) (wS g a u) A 0 0) (F0 m 27 ls [.int v5]) := by
    intro H locs ls X hl
    clear hE
    cases sm hm
    exact kiret C X dX3_stray_27
  clear hm
  have hm := hE
  clear hE
  refine lv_if_eq (tgt := 12) hx hb dX3_stray_5 (by decide) (fun hc => ?_) (fun hc => ?_)
  · have hm := ifp hc hm
    refine lv_aload_n hx hb dX3_stray_12 rfl (lv_at hl 0 rfl) ?_
    refine lv_iload_n hx hb dX3_stray_13 rfl (lv_at hl 1 rfl) ?_
    refine lv_aload_n hx hb dX3_stray_14 rfl (lv_at hl 0 rfl) ?_
    refine lv_iload_n hx hb dX3_stray_15 rfl (lv_at hl 1 rfl) ?_
    obtain ⟨r6, hcl, hm⟩ := bnd hm
    refine kVW C X (kX3_keptBefore l g a p1 u r6 hcl) (cw_X3_stray_X3_keptBefore_79 C) 0 (ci := 3) rfl rfl (As := [.int p1]) rfl hl (rest := [.int p1, .ref (a 0)]) rfl (Nat.le_of_ble_eq_true rfl) (st2 := [.int r6, .int p1, .ref (a 0)]) rfl dX3_stray_16 ⟨Nat.le_of_ble_eq_true rfl, Nat.le_of_ble_eq_true rfl⟩ (fun H locs X => ?_)
    clear hcl
    refine lv_aload_n hx hb dX3_stray_19 rfl (lv_at hl 0 rfl) ?_
    refine lv_iload_n hx hb dX3_stray_20 rfl (lv_at hl 1 rfl) ?_
    obtain ⟨r7, hcl, hm⟩ := bnd hm
    refine kVW C X (kX3_keptBehind l g a p1 u r7 hcl) (cw_X3_stray_X3_keptBehind_82 C) 0 (ci := 3) rfl rfl (As := [.int p1]) rfl hl (rest := [.int r6, .int p1, .ref (a 0)]) rfl (Nat.le_of_ble_eq_true rfl) (st2 := [.int r7, .int r6, .int p1, .ref (a 0)]) rfl dX3_stray_21 ⟨Nat.le_of_ble_eq_true rfl, Nat.le_of_ble_eq_true rfl⟩ (fun H locs X => ?_)
    clear hcl
    obtain ⟨r8, hcl, hm⟩ := bnd hm
    refine kVW C X (kX3_hundredths l g a p1 r6 r7 u r8 hcl) (cw_X3_stray_X3_hundredths_85 C) 0 (ci := 3) rfl rfl (As := [.int p1, .int r6, .int r7]) rfl hl (rest := []) rfl (Nat.le_of_ble_eq_true rfl) (st2 := [.int r8]) rfl dX3_stray_24 ⟨Nat.le_of_ble_eq_true rfl, Nat.le_of_ble_eq_true rfl⟩ (fun H locs X => ?_)
    clear hcl
    cases sm hm
    exact K _ _ _ X (lv_sub hl [] rfl)
  · have hm := ifn hc hm
    refine lv_iconst (v := 0) hx hb dX3_stray_8 (by decide) ?_
    refine lv_goto (tgt := 27) hx hb dX3_stray_9 (by decide) ?_
    cases sm hm
    exact K _ _ _ X (lv_sub hl [] rfl)
-- X3 BrushStrokes$Stroke.firstOfGreatestStray()I
abbrev rX3_firstOfGreatestStray : Room := { frames := 5, cells := 0, slots := 0, locals := 116 }
theorem fl_X3_firstOfGreatestStray_15 : (Cond.fieldLink RX3 15 "BrushStrokes$Stroke" "size" "I") ∈ wsX3_firstOfGreatestStray := by decide +kernel
theorem in_X3_firstOfGreatestStray_X3 : ∀ w ∈ u_ws RX3 TX3 3, w ∈ wsX3_firstOfGreatestStray := by decide +kernel
theorem cw_X3_firstOfGreatestStray_X3_stray_89 {p : Program} {s : State} {m : MethodId} {args : Array Value} {meth : Method} {c : Code} {g : kG} {A : Nat → Prop} (C : CT g p s m args meth c RX3 cX3_firstOfGreatestStray 5 (some .int) wsX3_firstOfGreatestStray A) : CallW rX3_firstOfGreatestStray s args RX3 RX3 89 yX3_stray cX3_stray 2 (some .int) wsX3_stray rX3_stray 0 0 1 := cwV 1 C.2.2.2.2.2.1 gX3_firstOfGreatestStray_X3_stray rfl rfl rfl (by decide +kernel) ⟨Nat.le_of_ble_eq_true rfl, Nat.le_of_ble_eq_true rfl⟩
noncomputable def bX3_firstOfGreatestStray_6 (w4 : SS) : Int32 × Int32 × Int32 → Option ((Int32 × Int32 × Int32) ⊕ (Int32))
  | (x1, x2, x3) => if (S_size w4) ≤ x3 then (some (.inr x1)) else ((fX3_stray x3 w4).bind fun r6 => (if r6 ≤ x2 then (some (x1, x2)) else (some (x3, r6))).bind fun (v7, v8) => some (.inl (v7, v8, x3 + 1)))
noncomputable def lX3_firstOfGreatestStray_6 (w4 : SS) (x1 : Int32) (x2 : Int32) (x3 : Int32) : Option (Int32) := lp (bX3_firstOfGreatestStray_6 w4) (x1, x2, x3)
theorem lX3_firstOfGreatestStray_6_eq (w4 : SS) (x1 : Int32) (x2 : Int32) (x3 : Int32) : lX3_firstOfGreatestStray_6 w4 x1 x2 x3 = (if (S_size w4) ≤ x3 then (some (.inr x1)) else ((fX3_stray x3 w4).bind fun r6 => (if r6 ≤ x2 then (some (x1, x2)) else (some (x3, r6))).bind fun (v7, v8) => some (.inl (v7, v8, x3 + 1)))).bind fun r => Sum.elim (fun z => lX3_firstOfGreatestStray_6 w4 z.1 z.2.1 z.2.2) (fun r => some r) r := lp_eq (bX3_firstOfGreatestStray_6 w4) (x1, x2, x3)
set_option maxRecDepth 100000 in
set_option maxHeartbeats 4000000 in
theorem tX3_firstOfGreatestStray_6 {p : Program} {l : Launch} {e : Env} {s : State} {m : MethodId} {args : Array Value} {below : List Frame} {meth : Method} {c : Code} {g : kG} {A : Nat → Prop} {Q : State → Prop} (a : Nat → Nat) (C : CT g p s m args meth c RX3 cX3_firstOfGreatestStray 5 (some .int) wsX3_firstOfGreatestStray A) (w4 : SS) (y5 : Int32) (kk : ∀ (H : Heap) (locs : List Loc) (ls : Array Slot), ST g A s H locs (wS g a w4) → lv_has ls 5 [(1, .int y5)] → W p l e rX3_firstOfGreatestStray s m args below meth c H locs 0 0 Q (F0 m 38 ls [])) : ∀ (n : Nat) (x1 : Int32) (x2 : Int32) (x3 : Int32), whl (bX3_firstOfGreatestStray_6 w4) n (x1, x2, x3) = some y5 → ∀ (H : Heap) (locs : List Loc) (ls : Array Slot), ST g A s H locs (wS g a w4) → lv_has ls 5 [(0, .ref (a 0)), (1, .int x1), (2, .int x2), (3, .int x3)] → W p l e rX3_firstOfGreatestStray s m args below meth c H locs 0 0 Q (F0 m 6 ls []) := by
  have hx := C.1
  have hb := C.2.1
  have hinX3 := in_X3_firstOfGreatestStray_X3
  have hf15 := C.2.2.2.2.2.1 _ fl_X3_firstOfGreatestStray_15
  intro n
  induction n with
  | zero =>
    intro x1 x2 x3 hm
    cases hm
  | succ n ih =>
    intro x1 x2 x3 hm H locs ls X hl
    rw [whl] at hm
    obtain ⟨q, hq, hm2⟩ := bnd hm
    clear hm
    have hm := hq
    clear hq
    rw [bX3_firstOfGreatestStray_6] at hm
    refine lv_iload_n hx hb dX3_firstOfGreatestStray_6 rfl (lv_at hl 3 rfl) ?_
    refine lv_aload_n hx hb dX3_firstOfGreatestStray_7 rfl (lv_at hl 0 rfl) ?_
    refine kget C X 0 (ci := 3) rfl rfl hinX3 1 (by decide) hf15 (v := .int (S_size w4)) rfl dX3_firstOfGreatestStray_8 ?_
    refine lv_icmp_ge (tgt := 38) hx hb dX3_firstOfGreatestStray_11 (by decide) (fun hc => ?_) (fun hc => ?_)
    · have hm := ifp hc hm
      cases sm hm
      cases sm hm2
      exact kk _ _ _ X (lv_sub hl [1] rfl)
    · have hm := ifn hc hm
      refine lv_aload_n hx hb dX3_firstOfGreatestStray_14 rfl (lv_at hl 0 rfl) ?_
      refine lv_iload_n hx hb dX3_firstOfGreatestStray_15 rfl (lv_at hl 3 rfl) ?_
      obtain ⟨r6, hcl, hm⟩ := bnd hm
      refine kVW C X (kX3_stray l g a x3 w4 r6 hcl) (cw_X3_firstOfGreatestStray_X3_stray_89 C) 0 (ci := 3) rfl rfl (As := [.int x3]) rfl hl (rest := []) rfl (Nat.le_of_ble_eq_true rfl) (st2 := [.int r6]) rfl dX3_firstOfGreatestStray_16 ⟨Nat.le_of_ble_eq_true rfl, Nat.le_of_ble_eq_true rfl⟩ (fun H locs X => ?_)
      clear hcl
      refine lv_istore (lv' := [(4, .int r6), (0, .ref (a 0)), (1, .int x1), (2, .int x2), (3, .int x3)]) hx hb dX3_firstOfGreatestStray_19 hl (by decide) rfl (fun ls hl => ?_)
      refine lv_iload hx hb dX3_firstOfGreatestStray_21 (lv_at hl 0 rfl) ?_
      refine lv_iload_n hx hb dX3_firstOfGreatestStray_23 rfl (lv_at hl 3 rfl) ?_
      obtain ⟨⟨v7, v8⟩, hE, hm⟩ := bnd hm
      have K : ∀ (H : Heap) (locs : List Loc) (ls : Array Slot), ST g A s H locs (wS g a w4) → lv_has ls 5 [(0, .ref (a 0)), (1, .int v7), (2, .int v8), (3, .int x3)] → W p l e rX3_firstOfGreatestStray s m args below meth c H locs 0 0 Q (F0 m 32 ls []) := by
        intro H locs ls X hl
        clear hE
        refine lv_iinc (v := x3 + 1) (lv' := [(3, .int (x3 + 1)), (0, .ref (a 0)), (1, .int v7), (2, .int v8)]) hx hb dX3_firstOfGreatestStray_32 hl (k := 3) rfl rfl (by decide) rfl (fun ls hl => ?_)
        refine lv_goto (tgt := 6) hx hb dX3_firstOfGreatestStray_35 (by decide) ?_
        cases sm hm
        exact ih _ _ _ hm2 _ _ _ X (lv_sub hl [1, 2, 3, 0] rfl)
      clear hm
      have hm := hE
      clear hE
      refine lv_icmp_le (tgt := 32) hx hb dX3_firstOfGreatestStray_24 (by decide) (fun hc => ?_) (fun hc => ?_)
      · have hm := ifp hc hm
        cases sm hm
        exact K _ _ _ X (lv_sub hl [1, 2, 3, 4] rfl)
      · have hm := ifn hc hm
        refine lv_iload hx hb dX3_firstOfGreatestStray_27 (lv_at hl 0 rfl) ?_
        refine lv_istore_n (lv' := [(2, .int r6), (4, .int r6), (0, .ref (a 0)), (1, .int x1), (3, .int x3)]) hx hb dX3_firstOfGreatestStray_29 rfl hl (by decide) rfl (fun ls hl => ?_)
        refine lv_iload_n hx hb dX3_firstOfGreatestStray_30 rfl (lv_at hl 4 rfl) ?_
        refine lv_istore_n (lv' := [(1, .int x3), (2, .int r6), (4, .int r6), (0, .ref (a 0)), (3, .int x3)]) hx hb dX3_firstOfGreatestStray_31 rfl hl (by decide) rfl (fun ls hl => ?_)
        cases sm hm
        exact K _ _ _ X (lv_sub hl [3, 0, 1, 4] rfl)
noncomputable def fX3_firstOfGreatestStray (u : SS) : Option (Int32) := (lX3_firstOfGreatestStray_6 u 0 0 0).bind fun y9 => some y9
set_option maxRecDepth 100000 in
set_option maxHeartbeats 4000000 in
theorem kX3_firstOfGreatestStray (l : Launch) (g : kG) (a : Nat → Nat) (u : SS) (o1 : Int32) (hm : fX3_firstOfGreatestStray u = some o1) : KM l yX3_firstOfGreatestStray wsX3_firstOfGreatestStray rX3_firstOfGreatestStray g [.ref (a 0)] (wS g a u) (some (.int o1)) (wS g a u) 0 0 := by
  refine KM.of (nL := 5) (by decide) rfl (Nat.le_of_ble_eq_true rfl) ?_
  intro p e s m args below meth c A ls C X hl
  have C : CT g p s m args meth c RX3 cX3_firstOfGreatestStray 5 (some .int) wsX3_firstOfGreatestStray A := C
  have hx := C.1
  have hb := C.2.1
  have hl : lv_has ls 5 [(0, .ref (a 0))] := hl
  rw [fX3_firstOfGreatestStray] at hm
  refine lv_iconst (v := 0) hx hb dX3_firstOfGreatestStray_0 (by decide) ?_
  refine lv_istore_n (lv' := [(1, .int 0), (0, .ref (a 0))]) hx hb dX3_firstOfGreatestStray_1 rfl hl (by decide) rfl (fun ls hl => ?_)
  refine lv_iconst (v := 0) hx hb dX3_firstOfGreatestStray_2 (by decide) ?_
  refine lv_istore_n (lv' := [(2, .int 0), (1, .int 0), (0, .ref (a 0))]) hx hb dX3_firstOfGreatestStray_3 rfl hl (by decide) rfl (fun ls hl => ?_)
  refine lv_iconst (v := 0) hx hb dX3_firstOfGreatestStray_4 (by decide) ?_
  refine lv_istore_n (lv' := [(3, .int 0), (2, .int 0), (1, .int 0), (0, .ref (a 0))]) hx hb dX3_firstOfGreatestStray_5 rfl hl (by decide) rfl (fun ls hl => ?_)
  obtain ⟨y9, hL, hm⟩ := bnd hm
  obtain ⟨nn, hn⟩ := lp_run hL
  refine tX3_firstOfGreatestStray_6 a C u y9 (fun H locs ls X hl => ?_) nn _ _ _ hn _ _ _ X (lv_sub hl [3, 2, 1, 0] rfl)
  clear hL hn
  refine lv_iload_n hx hb dX3_firstOfGreatestStray_38 rfl (lv_at hl 0 rfl) ?_
  cases sm hm
  exact kiret C X dX3_firstOfGreatestStray_39
-- X3 BrushStrokes$Stroke.farthestBetween(II)I
abbrev rX3_farthestBetween : Room := { frames := 2, cells := 0, slots := 0, locals := 58 }
theorem cw_X3_farthestBetween_X3_spread_71 {p : Program} {s : State} {m : MethodId} {args : Array Value} {meth : Method} {c : Code} {g : kG} {A : Nat → Prop} (C : CT g p s m args meth c RX3 cX3_farthestBetween 9 (some .int) wsX3_farthestBetween A) : CallW rX3_farthestBetween s args RX3 RX3 71 yX3_spread cX3_spread 16 (some .long) wsX3_spread rX3_spread 0 0 3 := cwV 3 C.2.2.2.2.2.1 gX3_farthestBetween_X3_spread rfl rfl rfl (by decide +kernel) ⟨Nat.le_of_ble_eq_true rfl, Nat.le_of_ble_eq_true rfl⟩
noncomputable def bX3_farthestBetween_10 (c1 : Int32) (c2 : Int32) (w6 : SS) : Int32 × Int64 × Int32 → Option ((Int32 × Int64 × Int32) ⊕ (Int32))
  | (x3, x4, x5) => if c2 ≤ x5 then (some (.inr x3)) else ((fX3_spread x5 c1 c2 w6).bind fun r8 => (if r8 ≤ x4 then (some (x3, x4)) else (some (x5, r8))).bind fun (v9, v10) => some (.inl (v9, v10, x5 + 1)))
noncomputable def lX3_farthestBetween_10 (c1 : Int32) (c2 : Int32) (w6 : SS) (x3 : Int32) (x4 : Int64) (x5 : Int32) : Option (Int32) := lp (bX3_farthestBetween_10 c1 c2 w6) (x3, x4, x5)
theorem lX3_farthestBetween_10_eq (c1 : Int32) (c2 : Int32) (w6 : SS) (x3 : Int32) (x4 : Int64) (x5 : Int32) : lX3_farthestBetween_10 c1 c2 w6 x3 x4 x5 = (if c2 ≤ x5 then (some (.inr x3)) else ((fX3_spread x5 c1 c2 w6).bind fun r8 => (if r8 ≤ x4 then (some (x3, x4)) else (some (x5, r8))).bind fun (v9, v10) => some (.inl (v9, v10, x5 + 1)))).bind fun r => Sum.elim (fun z => lX3_farthestBetween_10 c1 c2 w6 z.1 z.2.1 z.2.2) (fun r => some r) r := lp_eq (bX3_farthestBetween_10 c1 c2 w6) (x3, x4, x5)
set_option maxRecDepth 100000 in
set_option maxHeartbeats 4000000 in
theorem tX3_farthestBetween_10 {p : Program} {l : Launch} {e : Env} {s : State} {m : MethodId} {args : Array Value} {below : List Frame} {meth : Method} {c : Code} {g : kG} {A : Nat → Prop} {Q : State → Prop} (a : Nat → Nat) (C : CT g p s m args meth c RX3 cX3_farthestBetween 9 (some .int) wsX3_farthestBetween A) (c1 : Int32) (c2 : Int32) (w6 : SS) (y7 : Int32) (kk : ∀ (H : Heap) (locs : List Loc) (ls : Array Slot), ST g A s H locs (wS g a w6) → lv_has ls 9 [(3, .int y7)] → W p l e rX3_farthestBetween s m args below meth c H locs 0 0 Q (F0 m 47 ls [])) : ∀ (n : Nat) (x3 : Int32) (x4 : Int64) (x5 : Int32), whl (bX3_farthestBetween_10 c1 c2 w6) n (x3, x4, x5) = some y7 → ∀ (H : Heap) (locs : List Loc) (ls : Array Slot), ST g A s H locs (wS g a w6) → lv_has ls 9 [(0, .ref (a 0)), (1, .int c1), (2, .int c2), (3, .int x3), (4, .long x4), (6, .int x5)] → W p l e rX3_farthestBetween s m args below meth c H locs 0 0 Q (F0 m 10 ls []) := by
  have hx := C.1
  have hb := C.2.1
  intro n
  induction n with
  | zero =>
    intro x3 x4 x5 hm
    cases hm
  | succ n ih =>
    intro x3 x4 x5 hm H locs ls X hl
    rw [whl] at hm
    obtain ⟨q, hq, hm2⟩ := bnd hm
    clear hm
    have hm := hq
    clear hq
    rw [bX3_farthestBetween_10] at hm
    refine lv_iload hx hb dX3_farthestBetween_10 (lv_at hl 5 rfl) ?_
    refine lv_iload_n hx hb dX3_farthestBetween_12 rfl (lv_at hl 2 rfl) ?_
    refine lv_icmp_ge (tgt := 47) hx hb dX3_farthestBetween_13 (by decide) (fun hc => ?_) (fun hc => ?_)
    · have hm := ifp hc hm
      cases sm hm
      cases sm hm2
      exact kk _ _ _ X (lv_sub hl [3] rfl)
    · have hm := ifn hc hm
      refine lv_aload_n hx hb dX3_farthestBetween_16 rfl (lv_at hl 0 rfl) ?_
      refine lv_iload hx hb dX3_farthestBetween_17 (lv_at hl 5 rfl) ?_
      refine lv_iload_n hx hb dX3_farthestBetween_19 rfl (lv_at hl 1 rfl) ?_
      refine lv_iload_n hx hb dX3_farthestBetween_20 rfl (lv_at hl 2 rfl) ?_
      obtain ⟨r8, hcl, hm⟩ := bnd hm
      refine kVW C X (kX3_spread l g a x5 c1 c2 w6 r8 hcl) (cw_X3_farthestBetween_X3_spread_71 C) 0 (ci := 3) rfl rfl (As := [.int x5, .int c1, .int c2]) rfl hl (rest := []) rfl (Nat.le_of_ble_eq_true rfl) (st2 := [.long r8]) rfl dX3_farthestBetween_21 ⟨Nat.le_of_ble_eq_true rfl, Nat.le_of_ble_eq_true rfl⟩ (fun H locs X => ?_)
      clear hcl
      refine lv_lstore (lv' := [(7, .long r8), (0, .ref (a 0)), (1, .int c1), (2, .int c2), (3, .int x3), (4, .long x4), (6, .int x5)]) hx hb dX3_farthestBetween_24 hl (by decide) rfl (fun ls hl => ?_)
      refine lv_lload hx hb dX3_farthestBetween_26 (lv_at hl 0 rfl) ?_
      refine lv_lload hx hb dX3_farthestBetween_28 (lv_at hl 5 rfl) ?_
      obtain ⟨⟨v9, v10⟩, hE, hm⟩ := bnd hm
      have K : ∀ (H : Heap) (locs : List Loc) (ls : Array Slot), ST g A s H locs (wS g a w6) → lv_has ls 9 [(0, .ref (a 0)), (1, .int c1), (2, .int c2), (3, .int v9), (4, .long v10), (6, .int x5)] → W p l e rX3_farthestBetween s m args below meth c H locs 0 0 Q (F0 m 41 ls []) := by
        intro H locs ls X hl
        clear hE
        refine lv_iinc (v := x5 + 1) (lv' := [(6, .int (x5 + 1)), (0, .ref (a 0)), (1, .int c1), (2, .int c2), (3, .int v9), (4, .long v10)]) hx hb dX3_farthestBetween_41 hl (k := 5) rfl rfl (by decide) rfl (fun ls hl => ?_)
        refine lv_goto (tgt := 10) hx hb dX3_farthestBetween_44 (by decide) ?_
        cases sm hm
        exact ih _ _ _ hm2 _ _ _ X (lv_sub hl [1, 2, 3, 4, 5, 0] rfl)
      clear hm
      have hm := hE
      clear hE
      refine klcmp_le (tgt := 41) hx hb dX3_farthestBetween_30 dX3_farthestBetween_31 (by decide) (fun hc => ?_) (fun hc => ?_)
      · have hm := ifp hc hm
        cases sm hm
        exact K _ _ _ X (lv_sub hl [1, 2, 3, 4, 5, 6] rfl)
      · have hm := ifn hc hm
        refine lv_lload hx hb dX3_farthestBetween_34 (lv_at hl 0 rfl) ?_
        refine lv_lstore (lv' := [(4, .long r8), (7, .long r8), (0, .ref (a 0)), (1, .int c1), (2, .int c2), (3, .int x3), (6, .int x5)]) hx hb dX3_farthestBetween_36 hl (by decide) rfl (fun ls hl => ?_)
        refine lv_iload hx hb dX3_farthestBetween_38 (lv_at hl 6 rfl) ?_
        refine lv_istore_n (lv' := [(3, .int x5), (4, .long r8), (7, .long r8), (0, .ref (a 0)), (1, .int c1), (2, .int c2), (6, .int x5)]) hx hb dX3_farthestBetween_40 rfl hl (by decide) rfl (fun ls hl => ?_)
        cases sm hm
        exact K _ _ _ X (lv_sub hl [3, 4, 5, 0, 1, 6] rfl)
noncomputable def fX3_farthestBetween (p1 : Int32) (p2 : Int32) (u : SS) : Option (Int32) := (lX3_farthestBetween_10 p1 p2 u p1 0 (p1 + 1)).bind fun y11 => some y11
set_option maxRecDepth 100000 in
set_option maxHeartbeats 4000000 in
theorem kX3_farthestBetween (l : Launch) (g : kG) (a : Nat → Nat) (p1 : Int32) (p2 : Int32) (u : SS) (o1 : Int32) (hm : fX3_farthestBetween p1 p2 u = some o1) : KM l yX3_farthestBetween wsX3_farthestBetween rX3_farthestBetween g [.ref (a 0), .int p1, .int p2] (wS g a u) (some (.int o1)) (wS g a u) 0 0 := by
  refine KM.of (nL := 9) (by decide) rfl (Nat.le_of_ble_eq_true rfl) ?_
  intro p e s m args below meth c A ls C X hl
  have C : CT g p s m args meth c RX3 cX3_farthestBetween 9 (some .int) wsX3_farthestBetween A := C
  have hx := C.1
  have hb := C.2.1
  have hl : lv_has ls 9 [(0, .ref (a 0)), (1, .int p1), (2, .int p2)] := hl
  rw [fX3_farthestBetween] at hm
  refine lv_iload_n hx hb dX3_farthestBetween_0 rfl (lv_at hl 1 rfl) ?_
  refine lv_istore_n (lv' := [(3, .int p1), (0, .ref (a 0)), (1, .int p1), (2, .int p2)]) hx hb dX3_farthestBetween_1 rfl hl (by decide) rfl (fun ls hl => ?_)
  refine lv_lconst (v := 0) hx hb dX3_farthestBetween_2 (by decide) ?_
  refine lv_lstore (lv' := [(4, .long 0), (3, .int p1), (0, .ref (a 0)), (1, .int p1), (2, .int p2)]) hx hb dX3_farthestBetween_3 hl (by decide) rfl (fun ls hl => ?_)
  refine lv_iload_n hx hb dX3_farthestBetween_5 rfl (lv_at hl 3 rfl) ?_
  refine lv_iconst (v := 1) hx hb dX3_farthestBetween_6 (by decide) ?_
  refine lv_iadd hx hb dX3_farthestBetween_7 ?_
  refine lv_istore (lv' := [(6, .int (p1 + 1)), (4, .long 0), (3, .int p1), (0, .ref (a 0)), (1, .int p1), (2, .int p2)]) hx hb dX3_farthestBetween_8 hl (by decide) rfl (fun ls hl => ?_)
  obtain ⟨y11, hL, hm⟩ := bnd hm
  obtain ⟨nn, hn⟩ := lp_run hL
  refine tX3_farthestBetween_10 a C p1 p2 u y11 (fun H locs ls X hl => ?_) nn _ _ _ hn _ _ _ X (lv_sub hl [3, 4, 5, 2, 1, 0] rfl)
  clear hL hn
  refine lv_iload_n hx hb dX3_farthestBetween_47 rfl (lv_at hl 0 rfl) ?_
  cases sm hm
  exact kiret C X dX3_farthestBetween_48
-- X3 BrushStrokes$Stroke.isEnd(I)Z
abbrev rX3_isEnd : Room := { frames := 0, cells := 0, slots := 0, locals := 0 }
theorem fl_X3_isEnd_15 : (Cond.fieldLink RX3 15 "BrushStrokes$Stroke" "size" "I") ∈ wsX3_isEnd := by decide +kernel
theorem in_X3_isEnd_X3 : ∀ w ∈ u_ws RX3 TX3 3, w ∈ wsX3_isEnd := by decide +kernel
noncomputable def fX3_isEnd (p1 : Int32) (u : SS) : Option (Int32) := (if p1 = 0 then (some 1) else (if p1 = ((S_size u) - 1) then (some 1) else (some 0))).bind fun v1 => gd (isb v1) (some v1)
set_option maxRecDepth 100000 in
set_option maxHeartbeats 4000000 in
theorem kX3_isEnd (l : Launch) (g : kG) (a : Nat → Nat) (p1 : Int32) (u : SS) (o1 : Int32) (hm : fX3_isEnd p1 u = some o1) : KM l yX3_isEnd wsX3_isEnd rX3_isEnd g [.ref (a 0), .int p1] (wS g a u) (some (.int o1)) (wS g a u) 0 0 := by
  refine KM.of (nL := 2) (by decide) rfl (Nat.le_of_ble_eq_true rfl) ?_
  intro p e s m args below meth c A ls C X hl
  have C : CT g p s m args meth c RX3 cX3_isEnd 2 (some .boolean) wsX3_isEnd A := C
  have hx := C.1
  have hb := C.2.1
  have hl : lv_has ls 2 [(0, .ref (a 0)), (1, .int p1)] := hl
  have hinX3 := in_X3_isEnd_X3
  have hf15 := C.2.2.2.2.2.1 _ fl_X3_isEnd_15
  rw [fX3_isEnd] at hm
  refine lv_iload_n hx hb dX3_isEnd_0 rfl (lv_at hl 1 rfl) ?_
  obtain ⟨v1, hE, hm⟩ := bnd hm
  have K : ∀ (H : Heap) (locs : List Loc) (ls : Array Slot), ST g A s H locs (wS g a u) → lv_has ls 2 [] → W p l e rX3_isEnd s m args below meth c H locs 0 0 (kEnd g below args s (some (.int o1)) (wS g a u) A 0 0) (F0 m 19 ls [.int v1]) := by
    intro H locs ls X hl
    clear hE
    obtain ⟨hgb, hm⟩ := gd_t hm
    cases sm hm
    exact kzret (isb_n hgb) C X dX3_isEnd_19
  clear hm
  have hm := hE
  clear hE
  refine lv_if_eq (tgt := 14) hx hb dX3_isEnd_1 (by decide) (fun hc => ?_) (fun hc => ?_)
  · have hm := ifp hc hm
    refine lv_iconst (v := 1) hx hb dX3_isEnd_14 (by decide) ?_
    refine lv_goto (tgt := 19) hx hb dX3_isEnd_15 (by decide) ?_
    cases sm hm
    exact K _ _ _ X (lv_sub hl [] rfl)
  · have hm := ifn hc hm
    refine lv_iload_n hx hb dX3_isEnd_4 rfl (lv_at hl 1 rfl) ?_
    refine lv_aload_n hx hb dX3_isEnd_5 rfl (lv_at hl 0 rfl) ?_
    refine kget C X 0 (ci := 3) rfl rfl hinX3 1 (by decide) hf15 (v := .int (S_size u)) rfl dX3_isEnd_6 ?_
    refine lv_iconst (v := 1) hx hb dX3_isEnd_9 (by decide) ?_
    refine lv_isub hx hb dX3_isEnd_10 ?_
    refine lv_icmp_ne (tgt := 18) hx hb dX3_isEnd_11 (by decide) (fun hc => ?_) (fun hc => ?_)
    · have hm := ifn hc hm
      refine lv_iconst (v := 0) hx hb dX3_isEnd_18 (by decide) ?_
      cases sm hm
      exact K _ _ _ X (lv_sub hl [] rfl)
    · have hm := ifp hc hm
      refine lv_iconst (v := 1) hx hb dX3_isEnd_14 (by decide) ?_
      refine lv_goto (tgt := 19) hx hb dX3_isEnd_15 (by decide) ?_
      cases sm hm
      exact K _ _ _ X (lv_sub hl [] rfl)
-- X3 BrushStrokes$Stroke.isSharp(IIII)Z
abbrev rX3_isSharp : Room := { frames := 2, cells := 0, slots := 0, locals := 48 }
theorem cw_X3_isSharp_X3_square_62 {p : Program} {s : State} {m : MethodId} {args : Array Value} {meth : Method} {c : Code} {g : kG} {A : Nat → Prop} (C : CT g p s m args meth c RX3 cX3_isSharp 9 (some .boolean) wsX3_isSharp A) : CallW rX3_isSharp s args RX3 RX3 62 yX3_square cX3_square 7 (some .long) wsX3_square rX3_square 0 0 2 := cwV 2 C.2.2.2.2.2.1 gX3_isSharp_X3_square rfl rfl rfl (by decide +kernel) ⟨Nat.le_of_ble_eq_true rfl, Nat.le_of_ble_eq_true rfl⟩
theorem cw_X3_isSharp_X3_productAt_92 {p : Program} {s : State} {m : MethodId} {args : Array Value} {meth : Method} {c : Code} {g : kG} {A : Nat → Prop} (C : CT g p s m args meth c RX3 cX3_isSharp 9 (some .boolean) wsX3_isSharp A) : CallW rX3_isSharp s args RX3 RX3 92 yX3_productAt cX3_productAt 4 (some .long) wsX3_productAt rX3_productAt 0 0 3 := cwV 3 C.2.2.2.2.2.1 gX3_isSharp_X3_productAt rfl rfl rfl (by decide +kernel) ⟨Nat.le_of_ble_eq_true rfl, Nat.le_of_ble_eq_true rfl⟩
noncomputable def fX3_isSharp (p1 : Int32) (p2 : Int32) (p3 : Int32) (p4 : Int32) (u : SS) : Option (Int32) := (fX3_productAt p1 p2 p3 u).bind fun r1 => (fX3_square p1 p2 u).bind fun r2 => (fX3_square p2 p3 u).bind fun r3 => (if r1 < 0 then (some 1) else (if (r2 * r3) = 0 then (some 0) else (if ((p4.toInt64 * p4.toInt64) * (r2 * r3)) ≤ ((r1 * r1) * 10000) then (some 0) else (some 1)))).bind fun v4 => gd (isb v4) (some v4)
set_option maxRecDepth 100000 in
set_option maxHeartbeats 4000000 in
theorem kX3_isSharp (l : Launch) (g : kG) (a : Nat → Nat) (p1 : Int32) (p2 : Int32) (p3 : Int32) (p4 : Int32) (u : SS) (o1 : Int32) (hm : fX3_isSharp p1 p2 p3 p4 u = some o1) : KM l yX3_isSharp wsX3_isSharp rX3_isSharp g [.ref (a 0), .int p1, .int p2, .int p3, .int p4] (wS g a u) (some (.int o1)) (wS g a u) 0 0 := by
  refine KM.of (nL := 9) (by decide) rfl (Nat.le_of_ble_eq_true rfl) ?_
  intro p e s m args below meth c A ls C X hl
  have C : CT g p s m args meth c RX3 cX3_isSharp 9 (some .boolean) wsX3_isSharp A := C
  have hx := C.1
  have hb := C.2.1
  have hl : lv_has ls 9 [(0, .ref (a 0)), (1, .int p1), (2, .int p2), (3, .int p3), (4, .int p4)] := hl
  rw [fX3_isSharp] at hm
  refine lv_aload_n hx hb dX3_isSharp_0 rfl (lv_at hl 0 rfl) ?_
  refine lv_iload_n hx hb dX3_isSharp_1 rfl (lv_at hl 1 rfl) ?_
  refine lv_iload_n hx hb dX3_isSharp_2 rfl (lv_at hl 2 rfl) ?_
  refine lv_iload_n hx hb dX3_isSharp_3 rfl (lv_at hl 3 rfl) ?_
  obtain ⟨r1, hcl, hm⟩ := bnd hm
  refine kVW C X (kX3_productAt l g a p1 p2 p3 u r1 hcl) (cw_X3_isSharp_X3_productAt_92 C) 0 (ci := 3) rfl rfl (As := [.int p1, .int p2, .int p3]) rfl hl (rest := []) rfl (Nat.le_of_ble_eq_true rfl) (st2 := [.long r1]) rfl dX3_isSharp_4 ⟨Nat.le_of_ble_eq_true rfl, Nat.le_of_ble_eq_true rfl⟩ (fun H locs X => ?_)
  clear hcl
  refine lv_lstore (lv' := [(5, .long r1), (0, .ref (a 0)), (1, .int p1), (2, .int p2), (3, .int p3), (4, .int p4)]) hx hb dX3_isSharp_7 hl (by decide) rfl (fun ls hl => ?_)
  refine lv_aload_n hx hb dX3_isSharp_9 rfl (lv_at hl 1 rfl) ?_
  refine lv_iload_n hx hb dX3_isSharp_10 rfl (lv_at hl 2 rfl) ?_
  refine lv_iload_n hx hb dX3_isSharp_11 rfl (lv_at hl 3 rfl) ?_
  obtain ⟨r2, hcl, hm⟩ := bnd hm
  refine kVW C X (kX3_square l g a p1 p2 u r2 hcl) (cw_X3_isSharp_X3_square_62 C) 0 (ci := 3) rfl rfl (As := [.int p1, .int p2]) rfl hl (rest := []) rfl (Nat.le_of_ble_eq_true rfl) (st2 := [.long r2]) rfl dX3_isSharp_12 ⟨Nat.le_of_ble_eq_true rfl, Nat.le_of_ble_eq_true rfl⟩ (fun H locs X => ?_)
  clear hcl
  refine lv_aload_n hx hb dX3_isSharp_15 rfl (lv_at hl 1 rfl) ?_
  refine lv_iload_n hx hb dX3_isSharp_16 rfl (lv_at hl 3 rfl) ?_
  refine lv_iload_n hx hb dX3_isSharp_17 rfl (lv_at hl 4 rfl) ?_
  obtain ⟨r3, hcl, hm⟩ := bnd hm
  refine kVW C X (kX3_square l g a p2 p3 u r3 hcl) (cw_X3_isSharp_X3_square_62 C) 0 (ci := 3) rfl rfl (As := [.int p2, .int p3]) rfl hl (rest := [.long r2]) rfl (Nat.le_of_ble_eq_true rfl) (st2 := [.long r3, .long r2]) rfl dX3_isSharp_18 ⟨Nat.le_of_ble_eq_true rfl, Nat.le_of_ble_eq_true rfl⟩ (fun H locs X => ?_)
  clear hcl
  refine lv_lmul hx hb dX3_isSharp_21 ?_
  refine lv_lstore (lv' := [(7, .long (r2 * r3)), (5, .long r1), (0, .ref (a 0)), (1, .int p1), (2, .int p2), (3, .int p3), (4, .int p4)]) hx hb dX3_isSharp_22 hl (by decide) rfl (fun ls hl => ?_)
  refine lv_lload hx hb dX3_isSharp_24 (lv_at hl 1 rfl) ?_
  refine lv_lconst (v := 0) hx hb dX3_isSharp_26 (by decide) ?_
  obtain ⟨v4, hE, hm⟩ := bnd hm
  have K : ∀ (H : Heap) (locs : List Loc) (ls : Array Slot), ST g A s H locs (wS g a u) → lv_has ls 9 [] → W p l e rX3_isSharp s m args below meth c H locs 0 0 (kEnd g below args s (some (.int o1)) (wS g a u) A 0 0) (F0 m 66 ls [.int v4]) := by
    intro H locs ls X hl
    clear hE
    obtain ⟨hgb, hm⟩ := gd_t hm
    cases sm hm
    exact kzret (isb_n hgb) C X dX3_isSharp_66
  clear hm
  have hm := hE
  clear hE
  refine klcmp_lt (tgt := 61) hx hb dX3_isSharp_27 dX3_isSharp_28 (by decide) (fun hc => ?_) (fun hc => ?_)
  · have hm := ifp hc hm
    refine lv_iconst (v := 1) hx hb dX3_isSharp_61 (by decide) ?_
    refine lv_goto (tgt := 66) hx hb dX3_isSharp_62 (by decide) ?_
    cases sm hm
    exact K _ _ _ X (lv_sub hl [] rfl)
  · have hm := ifn hc hm
    refine lv_lload hx hb dX3_isSharp_31 (lv_at hl 0 rfl) ?_
    refine lv_lconst (v := 0) hx hb dX3_isSharp_33 (by decide) ?_
    refine klcmp_eq (tgt := 65) hx hb dX3_isSharp_34 dX3_isSharp_35 (by decide) (fun hc => ?_) (fun hc => ?_)
    · have hm := ifp hc hm
      refine lv_iconst (v := 0) hx hb dX3_isSharp_65 (by decide) ?_
      cases sm hm
      exact K _ _ _ X (lv_sub hl [] rfl)
    · have hm := ifn hc hm
      refine lv_lload hx hb dX3_isSharp_38 (lv_at hl 1 rfl) ?_
      refine lv_lload hx hb dX3_isSharp_40 (lv_at hl 1 rfl) ?_
      refine lv_lmul hx hb dX3_isSharp_42 ?_
      refine lv_ldc2 (v := 10000) hx hb C.2.2.2.2.1 (C.2.2.2.2.2.1 (.constantLong RX3 69 10000) (by decide +kernel)) dX3_isSharp_43 ?_
      refine lv_lmul hx hb dX3_isSharp_46 ?_
      refine lv_iload hx hb dX3_isSharp_47 (lv_at hl 6 rfl) ?_
      refine lv_i2l (v := p4.toInt64) hx hb dX3_isSharp_49 rfl ?_
      refine lv_iload hx hb dX3_isSharp_50 (lv_at hl 6 rfl) ?_
      refine lv_i2l (v := p4.toInt64) hx hb dX3_isSharp_52 rfl ?_
      refine lv_lmul hx hb dX3_isSharp_53 ?_
      refine lv_lload hx hb dX3_isSharp_54 (lv_at hl 0 rfl) ?_
      refine lv_lmul hx hb dX3_isSharp_56 ?_
      refine klcmp_ge (tgt := 65) hx hb dX3_isSharp_57 dX3_isSharp_58 (by decide) (fun hc => ?_) (fun hc => ?_)
      · have hm := ifp hc hm
        refine lv_iconst (v := 0) hx hb dX3_isSharp_65 (by decide) ?_
        cases sm hm
        exact K _ _ _ X (lv_sub hl [] rfl)
      · have hm := ifn hc hm
        refine lv_iconst (v := 1) hx hb dX3_isSharp_61 (by decide) ?_
        refine lv_goto (tgt := 66) hx hb dX3_isSharp_62 (by decide) ?_
        cases sm hm
        exact K _ _ _ X (lv_sub hl [] rfl)
-- X3 BrushStrokes$Stroke.isThin(II)Z
abbrev rX3_isThin : Room := { frames := 1, cells := 0, slots := 0, locals := 22 }
theorem cw_X3_isThin_X3_width_49 {p : Program} {s : State} {m : MethodId} {args : Array Value} {meth : Method} {c : Code} {g : kG} {A : Nat → Prop} (C : CT g p s m args meth c RX3 cX3_isThin 4 (some .boolean) wsX3_isThin A) : CallW rX3_isThin s args RX3 RX3 49 yX3_width cX3_width 3 (some .int) wsX3_width rX3_width 0 0 1 := cwV 1 C.2.2.2.2.2.1 gX3_isThin_X3_width rfl rfl rfl (by decide +kernel) ⟨Nat.le_of_ble_eq_true rfl, Nat.le_of_ble_eq_true rfl⟩
noncomputable def fX3_isThin (p1 : Int32) (p2 : Int32) (u : SS) : Option (Int32) := (fX3_width p1 u).bind fun r1 => (fX3_width (p1 - 1) u).bind fun r2 => (if r2 < (r1 + p2) then (some 0) else ((fX3_width (p1 + 1) u).bind fun r5 => if r5 < (r1 + p2) then (some 0) else (some 1))).bind fun v4 => gd (isb v4) (some v4)
set_option maxRecDepth 100000 in
set_option maxHeartbeats 4000000 in
theorem kX3_isThin (l : Launch) (g : kG) (a : Nat → Nat) (p1 : Int32) (p2 : Int32) (u : SS) (o1 : Int32) (hm : fX3_isThin p1 p2 u = some o1) : KM l yX3_isThin wsX3_isThin rX3_isThin g [.ref (a 0), .int p1, .int p2] (wS g a u) (some (.int o1)) (wS g a u) 0 0 := by
  refine KM.of (nL := 4) (by decide) rfl (Nat.le_of_ble_eq_true rfl) ?_
  intro p e s m args below meth c A ls C X hl
  have C : CT g p s m args meth c RX3 cX3_isThin 4 (some .boolean) wsX3_isThin A := C
  have hx := C.1
  have hb := C.2.1
  have hl : lv_has ls 4 [(0, .ref (a 0)), (1, .int p1), (2, .int p2)] := hl
  rw [fX3_isThin] at hm
  refine lv_aload_n hx hb dX3_isThin_0 rfl (lv_at hl 0 rfl) ?_
  refine lv_iload_n hx hb dX3_isThin_1 rfl (lv_at hl 1 rfl) ?_
  obtain ⟨r1, hcl, hm⟩ := bnd hm
  refine kVW C X (kX3_width l g a p1 u r1 hcl) (cw_X3_isThin_X3_width_49 C) 0 (ci := 3) rfl rfl (As := [.int p1]) rfl hl (rest := []) rfl (Nat.le_of_ble_eq_true rfl) (st2 := [.int r1]) rfl dX3_isThin_2 ⟨Nat.le_of_ble_eq_true rfl, Nat.le_of_ble_eq_true rfl⟩ (fun H locs X => ?_)
  clear hcl
  refine lv_iload_n hx hb dX3_isThin_5 rfl (lv_at hl 2 rfl) ?_
  refine lv_iadd hx hb dX3_isThin_6 ?_
  refine lv_istore_n (lv' := [(3, .int (r1 + p2)), (0, .ref (a 0)), (1, .int p1), (2, .int p2)]) hx hb dX3_isThin_7 rfl hl (by decide) rfl (fun ls hl => ?_)
  refine lv_iload_n hx hb dX3_isThin_8 rfl (lv_at hl 0 rfl) ?_
  refine lv_aload_n hx hb dX3_isThin_9 rfl (lv_at hl 1 rfl) ?_
  refine lv_iload_n hx hb dX3_isThin_10 rfl (lv_at hl 2 rfl) ?_
  refine lv_iconst (v := 1) hx hb dX3_isThin_11 (by decide) ?_
  refine lv_isub hx hb dX3_isThin_12 ?_
  obtain ⟨r2, hcl, hm⟩ := bnd hm
  refine kVW C X (kX3_width l g a (p1 - 1) u r2 hcl) (cw_X3_isThin_X3_width_49 C) 0 (ci := 3) rfl rfl (As := [.int (p1 - 1)]) rfl hl (rest := [.int (r1 + p2)]) rfl (Nat.le_of_ble_eq_true rfl) (st2 := [.int r2, .int (r1 + p2)]) rfl dX3_isThin_13 ⟨Nat.le_of_ble_eq_true rfl, Nat.le_of_ble_eq_true rfl⟩ (fun H locs X => ?_)
  clear hcl
  obtain ⟨v4, hE, hm⟩ := bnd hm
  have K : ∀ (H : Heap) (locs : List Loc) (ls : Array Slot), ST g A s H locs (wS g a u) → lv_has ls 4 [] → W p l e rX3_isThin s m args below meth c H locs 0 0 (kEnd g below args s (some (.int o1)) (wS g a u) A 0 0) (F0 m 35 ls [.int v4]) := by
    intro H locs ls X hl
    clear hE
    obtain ⟨hgb, hm⟩ := gd_t hm
    cases sm hm
    exact kzret (isb_n hgb) C X dX3_isThin_35
  clear hm
  have hm := hE
  clear hE
  refine lv_icmp_gt (tgt := 34) hx hb dX3_isThin_16 (by decide) (fun hc => ?_) (fun hc => ?_)
  · have hm := ifp hc hm
    refine lv_iconst (v := 0) hx hb dX3_isThin_34 (by decide) ?_
    cases sm hm
    exact K _ _ _ X (lv_sub hl [] rfl)
  · have hm := ifn hc hm
    refine lv_iload_n hx hb dX3_isThin_19 rfl (lv_at hl 0 rfl) ?_
    refine lv_aload_n hx hb dX3_isThin_20 rfl (lv_at hl 1 rfl) ?_
    refine lv_iload_n hx hb dX3_isThin_21 rfl (lv_at hl 2 rfl) ?_
    refine lv_iconst (v := 1) hx hb dX3_isThin_22 (by decide) ?_
    refine lv_iadd hx hb dX3_isThin_23 ?_
    obtain ⟨r5, hcl, hm⟩ := bnd hm
    refine kVW C X (kX3_width l g a (p1 + 1) u r5 hcl) (cw_X3_isThin_X3_width_49 C) 0 (ci := 3) rfl rfl (As := [.int (p1 + 1)]) rfl hl (rest := [.int (r1 + p2)]) rfl (Nat.le_of_ble_eq_true rfl) (st2 := [.int r5, .int (r1 + p2)]) rfl dX3_isThin_24 ⟨Nat.le_of_ble_eq_true rfl, Nat.le_of_ble_eq_true rfl⟩ (fun H locs X => ?_)
    clear hcl
    refine lv_icmp_gt (tgt := 34) hx hb dX3_isThin_27 (by decide) (fun hc => ?_) (fun hc => ?_)
    · have hm := ifp hc hm
      refine lv_iconst (v := 0) hx hb dX3_isThin_34 (by decide) ?_
      cases sm hm
      exact K _ _ _ X (lv_sub hl [] rfl)
    · have hm := ifn hc hm
      refine lv_iconst (v := 1) hx hb dX3_isThin_30 (by decide) ?_
      refine lv_goto (tgt := 35) hx hb dX3_isThin_31 (by decide) ?_
      cases sm hm
      exact K _ _ _ X (lv_sub hl [] rfl)
-- X3 BrushStrokes$Stroke.kind(III)I
abbrev rX3_kind : Room := { frames := 3, cells := 0, slots := 0, locals := 76 }
theorem cw_X3_kind_X3_isSharp_98 {p : Program} {s : State} {m : MethodId} {args : Array Value} {meth : Method} {c : Code} {g : kG} {A : Nat → Prop} (C : CT g p s m args meth c RX3 cX3_kind 4 (some .int) wsX3_kind A) : CallW rX3_kind s args RX3 RX3 98 yX3_isSharp cX3_isSharp 9 (some .boolean) wsX3_isSharp rX3_isSharp 0 0 4 := cwV 4 C.2.2.2.2.2.1 gX3_kind_X3_isSharp rfl rfl rfl (by decide +kernel) ⟨Nat.le_of_ble_eq_true rfl, Nat.le_of_ble_eq_true rfl⟩
theorem cw_X3_kind_X3_isEnd_95 {p : Program} {s : State} {m : MethodId} {args : Array Value} {meth : Method} {c : Code} {g : kG} {A : Nat → Prop} (C : CT g p s m args meth c RX3 cX3_kind 4 (some .int) wsX3_kind A) : CallW rX3_kind s args RX3 RX3 95 yX3_isEnd cX3_isEnd 2 (some .boolean) wsX3_isEnd rX3_isEnd 0 0 1 := cwV 1 C.2.2.2.2.2.1 gX3_kind_X3_isEnd rfl rfl rfl (by decide +kernel) ⟨Nat.le_of_ble_eq_true rfl, Nat.le_of_ble_eq_true rfl⟩
theorem cw_X3_kind_X3_isThin_102 {p : Program} {s : State} {m : MethodId} {args : Array Value} {meth : Method} {c : Code} {g : kG} {A : Nat → Prop} (C : CT g p s m args meth c RX3 cX3_kind 4 (some .int) wsX3_kind A) : CallW rX3_kind s args RX3 RX3 102 yX3_isThin cX3_isThin 4 (some .boolean) wsX3_isThin rX3_isThin 0 0 2 := cwV 2 C.2.2.2.2.2.1 gX3_kind_X3_isThin rfl rfl rfl (by decide +kernel) ⟨Nat.le_of_ble_eq_true rfl, Nat.le_of_ble_eq_true rfl⟩
noncomputable def fX3_kind (p1 : Int32) (p2 : Int32) (p3 : Int32) (u : SS) : Option (Int32) := (fX3_isEnd p1 u).bind fun r1 => if r1 = 0 then ((fX3_isSharp (p1 - 1) p1 (p1 + 1) p2 u).bind fun r2 => (if r2 = 0 then (some 0) else (some 2)).bind fun v3 => (fX3_isThin p1 p3 u).bind fun r4 => (if r4 = 0 then (some 0) else (some 4)).bind fun v5 => some (v3 + v5)) else (some 1)
set_option maxRecDepth 100000 in
set_option maxHeartbeats 4000000 in
theorem kX3_kind (l : Launch) (g : kG) (a : Nat → Nat) (p1 : Int32) (p2 : Int32) (p3 : Int32) (u : SS) (o1 : Int32) (hm : fX3_kind p1 p2 p3 u = some o1) : KM l yX3_kind wsX3_kind rX3_kind g [.ref (a 0), .int p1, .int p2, .int p3] (wS g a u) (some (.int o1)) (wS g a u) 0 0 := by
  refine KM.of (nL := 4) (by decide) rfl (Nat.le_of_ble_eq_true rfl) ?_
  intro p e s m args below meth c A ls C X hl
  have C : CT g p s m args meth c RX3 cX3_kind 4 (some .int) wsX3_kind A := C
  have hx := C.1
  have hb := C.2.1
  have hl : lv_has ls 4 [(0, .ref (a 0)), (1, .int p1), (2, .int p2), (3, .int p3)] := hl
  rw [fX3_kind] at hm
  refine lv_aload_n hx hb dX3_kind_0 rfl (lv_at hl 0 rfl) ?_
  refine lv_iload_n hx hb dX3_kind_1 rfl (lv_at hl 1 rfl) ?_
  obtain ⟨r1, hcl, hm⟩ := bnd hm
  refine kVW C X (kX3_isEnd l g a p1 u r1 hcl) (cw_X3_kind_X3_isEnd_95 C) 0 (ci := 3) rfl rfl (As := [.int p1]) rfl hl (rest := []) rfl (Nat.le_of_ble_eq_true rfl) (st2 := [.int r1]) rfl dX3_kind_2 ⟨Nat.le_of_ble_eq_true rfl, Nat.le_of_ble_eq_true rfl⟩ (fun H locs X => ?_)
  clear hcl
  refine lv_if_eq (tgt := 10) hx hb dX3_kind_5 (by decide) (fun hc => ?_) (fun hc => ?_)
  · have hm := ifp hc hm
    refine lv_aload_n hx hb dX3_kind_10 rfl (lv_at hl 0 rfl) ?_
    refine lv_iload_n hx hb dX3_kind_11 rfl (lv_at hl 1 rfl) ?_
    refine lv_iconst (v := 1) hx hb dX3_kind_12 (by decide) ?_
    refine lv_isub hx hb dX3_kind_13 ?_
    refine lv_iload_n hx hb dX3_kind_14 rfl (lv_at hl 1 rfl) ?_
    refine lv_iload_n hx hb dX3_kind_15 rfl (lv_at hl 1 rfl) ?_
    refine lv_iconst (v := 1) hx hb dX3_kind_16 (by decide) ?_
    refine lv_iadd hx hb dX3_kind_17 ?_
    refine lv_iload_n hx hb dX3_kind_18 rfl (lv_at hl 2 rfl) ?_
    obtain ⟨r2, hcl, hm⟩ := bnd hm
    refine kVW C X (kX3_isSharp l g a (p1 - 1) p1 (p1 + 1) p2 u r2 hcl) (cw_X3_kind_X3_isSharp_98 C) 0 (ci := 3) rfl rfl (As := [.int (p1 - 1), .int p1, .int (p1 + 1), .int p2]) rfl hl (rest := []) rfl (Nat.le_of_ble_eq_true rfl) (st2 := [.int r2]) rfl dX3_kind_19 ⟨Nat.le_of_ble_eq_true rfl, Nat.le_of_ble_eq_true rfl⟩ (fun H locs X => ?_)
    clear hcl
    obtain ⟨v3, hE, hm⟩ := bnd hm
    have K : ∀ (H : Heap) (locs : List Loc) (ls : Array Slot), ST g A s H locs (wS g a u) → lv_has ls 4 [(0, .ref (a 0)), (1, .int p1), (3, .int p3)] → W p l e rX3_kind s m args below meth c H locs 0 0 (kEnd g below args s (some (.int o1)) (wS g a u) A 0 0) (F0 m 30 ls [.int v3]) := by
      intro H locs ls X hl
      clear hE
      refine lv_aload_n hx hb dX3_kind_30 rfl (lv_at hl 0 rfl) ?_
      refine lv_iload_n hx hb dX3_kind_31 rfl (lv_at hl 1 rfl) ?_
      refine lv_iload_n hx hb dX3_kind_32 rfl (lv_at hl 2 rfl) ?_
      obtain ⟨r4, hcl, hm⟩ := bnd hm
      refine kVW C X (kX3_isThin l g a p1 p3 u r4 hcl) (cw_X3_kind_X3_isThin_102 C) 0 (ci := 3) rfl rfl (As := [.int p1, .int p3]) rfl hl (rest := [.int v3]) rfl (Nat.le_of_ble_eq_true rfl) (st2 := [.int r4, .int v3]) rfl dX3_kind_33 ⟨Nat.le_of_ble_eq_true rfl, Nat.le_of_ble_eq_true rfl⟩ (fun H locs X => ?_)
      clear hcl
      obtain ⟨v5, hE, hm⟩ := bnd hm
      have K : ∀ (H : Heap) (locs : List Loc) (ls : Array Slot), ST g A s H locs (wS g a u) → lv_has ls 4 [] → W p l e rX3_kind s m args below meth c H locs 0 0 (kEnd g below args s (some (.int o1)) (wS g a u) A 0 0) (F0 m 44 ls [.int v5, .int v3]) := by
        intro H locs ls X hl
        clear hE
        refine lv_iadd hx hb dX3_kind_44 ?_
        cases sm hm
        exact kiret C X dX3_kind_45
      clear hm
      have hm := hE
      clear hE
      refine lv_if_eq (tgt := 43) hx hb dX3_kind_36 (by decide) (fun hc => ?_) (fun hc => ?_)
      · have hm := ifp hc hm
        refine lv_iconst (v := 0) hx hb dX3_kind_43 (by decide) ?_
        cases sm hm
        exact K _ _ _ X (lv_sub hl [] rfl)
      · have hm := ifn hc hm
        refine lv_iconst (v := 4) hx hb dX3_kind_39 (by decide) ?_
        refine lv_goto (tgt := 44) hx hb dX3_kind_40 (by decide) ?_
        cases sm hm
        exact K _ _ _ X (lv_sub hl [] rfl)
    clear hm
    have hm := hE
    clear hE
    refine lv_if_eq (tgt := 29) hx hb dX3_kind_22 (by decide) (fun hc => ?_) (fun hc => ?_)
    · have hm := ifp hc hm
      refine lv_iconst (v := 0) hx hb dX3_kind_29 (by decide) ?_
      cases sm hm
      exact K _ _ _ X (lv_sub hl [0, 1, 3] rfl)
    · have hm := ifn hc hm
      refine lv_iconst (v := 2) hx hb dX3_kind_25 (by decide) ?_
      refine lv_goto (tgt := 30) hx hb dX3_kind_26 (by decide) ?_
      cases sm hm
      exact K _ _ _ X (lv_sub hl [0, 1, 3] rfl)
  · have hm := ifn hc hm
    refine lv_iconst (v := 1) hx hb dX3_kind_8 (by decide) ?_
    cases sm hm
    exact kiret C X dX3_kind_9
-- X3 BrushStrokes$Stroke.keptLength()I
abbrev rX3_keptLength : Room := { frames := 3, cells := 0, slots := 0, locals := 64 }
theorem fl_X3_keptLength_15 : (Cond.fieldLink RX3 15 "BrushStrokes$Stroke" "size" "I") ∈ wsX3_keptLength := by decide +kernel
theorem in_X3_keptLength_X3 : ∀ w ∈ u_ws RX3 TX3 3, w ∈ wsX3_keptLength := by decide +kernel
theorem cw_X3_keptLength_X3_isKept_52 {p : Program} {s : State} {m : MethodId} {args : Array Value} {meth : Method} {c : Code} {g : kG} {A : Nat → Prop} (C : CT g p s m args meth c RX3 cX3_keptLength 3 (some .int) wsX3_keptLength A) : CallW rX3_keptLength s args RX3 RX3 52 yX3_isKept cX3_isKept 2 (some .boolean) wsX3_isKept rX3_isKept 0 0 1 := cwV 1 C.2.2.2.2.2.1 gX3_keptLength_X3_isKept rfl rfl rfl (by decide +kernel) ⟨Nat.le_of_ble_eq_true rfl, Nat.le_of_ble_eq_true rfl⟩
theorem cw_X3_keptLength_X3_keptBefore_79 {p : Program} {s : State} {m : MethodId} {args : Array Value} {meth : Method} {c : Code} {g : kG} {A : Nat → Prop} (C : CT g p s m args meth c RX3 cX3_keptLength 3 (some .int) wsX3_keptLength A) : CallW rX3_keptLength s args RX3 RX3 79 yX3_keptBefore cX3_keptBefore 3 (some .int) wsX3_keptBefore rX3_keptBefore 0 0 1 := cwV 1 C.2.2.2.2.2.1 gX3_keptLength_X3_keptBefore rfl rfl rfl (by decide +kernel) ⟨Nat.le_of_ble_eq_true rfl, Nat.le_of_ble_eq_true rfl⟩
theorem cw_X3_keptLength_X3_square_62 {p : Program} {s : State} {m : MethodId} {args : Array Value} {meth : Method} {c : Code} {g : kG} {A : Nat → Prop} (C : CT g p s m args meth c RX3 cX3_keptLength 3 (some .int) wsX3_keptLength A) : CallW rX3_keptLength s args RX3 RX3 62 yX3_square cX3_square 7 (some .long) wsX3_square rX3_square 0 0 2 := cwV 2 C.2.2.2.2.2.1 gX3_keptLength_X3_square rfl rfl rfl (by decide +kernel) ⟨Nat.le_of_ble_eq_true rfl, Nat.le_of_ble_eq_true rfl⟩
theorem cw_X3_keptLength_X5_root_75 {p : Program} {s : State} {m : MethodId} {args : Array Value} {meth : Method} {c : Code} {g : kG} {A : Nat → Prop} (C : CT g p s m args meth c RX3 cX3_keptLength 3 (some .int) wsX3_keptLength A) : va_CN rX3_keptLength s args RX3 75 yX5_root RX5 cX5_root 6 (some .int) wsX5_root rX5_root 0 0 1 ∧ (Cond.static yX5_root).before args s = true ∧ True := ⟨va_cnB 1 C.2.2.2.2.2.1 gX3_keptLength_X5_root_n75 rfl rfl rfl (C.2.2.2.2.2.2.2.1.2.1.1 (RX3, 75, yX5_root, RX5) (by decide +kernel)) (C.2.2.2.2.2.1 (.initialized RX5) (by decide +kernel)) (by decide +kernel) ⟨Nat.le_of_ble_eq_true rfl, Nat.le_of_ble_eq_true rfl⟩, C.2.2.2.2.2.1 (.static yX5_root) (by decide +kernel), trivial⟩
noncomputable def bX3_keptLength_4 (w3 : SS) : Int32 × Int32 → Option ((Int32 × Int32) ⊕ (Int32))
  | (x1, x2) => if (S_size w3) ≤ x2 then (some (.inr x1)) else ((fX3_isKept x2 w3).bind fun r5 => (if r5 = 0 then (some x1) else ((fX3_keptBefore x2 w3).bind fun r10 => (fX3_square r10 x2 w3).bind fun r11 => (fX5_root (10000 * r11)).bind fun r12 => some (x1 + r12))).bind fun v9 => some (.inl (v9, x2 + 1)))
noncomputable def lX3_keptLength_4 (w3 : SS) (x1 : Int32) (x2 : Int32) : Option (Int32) := lp (bX3_keptLength_4 w3) (x1, x2)
theorem lX3_keptLength_4_eq (w3 : SS) (x1 : Int32) (x2 : Int32) : lX3_keptLength_4 w3 x1 x2 = (if (S_size w3) ≤ x2 then (some (.inr x1)) else ((fX3_isKept x2 w3).bind fun r5 => (if r5 = 0 then (some x1) else ((fX3_keptBefore x2 w3).bind fun r10 => (fX3_square r10 x2 w3).bind fun r11 => (fX5_root (10000 * r11)).bind fun r12 => some (x1 + r12))).bind fun v9 => some (.inl (v9, x2 + 1)))).bind fun r => Sum.elim (fun z => lX3_keptLength_4 w3 z.1 z.2) (fun r => some r) r := lp_eq (bX3_keptLength_4 w3) (x1, x2)
set_option maxRecDepth 100000 in
set_option maxHeartbeats 4000000 in
theorem tX3_keptLength_4 {p : Program} {l : Launch} {e : Env} {s : State} {m : MethodId} {args : Array Value} {below : List Frame} {meth : Method} {c : Code} {g : kG} {A : Nat → Prop} {Q : State → Prop} (a : Nat → Nat) (C : CT g p s m args meth c RX3 cX3_keptLength 3 (some .int) wsX3_keptLength A) (w3 : SS) (y4 : Int32) (kk : ∀ (H : Heap) (locs : List Loc) (ls : Array Slot), ST g A s H locs (wS g a w3) → lv_has ls 3 [(1, .int y4)] → W p l e rX3_keptLength s m args below meth c H locs 0 0 Q (F0 m 46 ls [])) : ∀ (n : Nat) (x1 : Int32) (x2 : Int32), whl (bX3_keptLength_4 w3) n (x1, x2) = some y4 → ∀ (H : Heap) (locs : List Loc) (ls : Array Slot), ST g A s H locs (wS g a w3) → lv_has ls 3 [(0, .ref (a 0)), (1, .int x1), (2, .int x2)] → W p l e rX3_keptLength s m args below meth c H locs 0 0 Q (F0 m 4 ls []) := by
  have hx := C.1
  have hb := C.2.1
  have hinX3 := in_X3_keptLength_X3
  have hf15 := C.2.2.2.2.2.1 _ fl_X3_keptLength_15
  intro n
  induction n with
  | zero =>
    intro x1 x2 hm
    cases hm
  | succ n ih =>
    intro x1 x2 hm H locs ls X hl
    rw [whl] at hm
    obtain ⟨q, hq, hm2⟩ := bnd hm
    clear hm
    have hm := hq
    clear hq
    rw [bX3_keptLength_4] at hm
    refine lv_iload_n hx hb dX3_keptLength_4 rfl (lv_at hl 2 rfl) ?_
    refine lv_aload_n hx hb dX3_keptLength_5 rfl (lv_at hl 0 rfl) ?_
    refine kget C X 0 (ci := 3) rfl rfl hinX3 1 (by decide) hf15 (v := .int (S_size w3)) rfl dX3_keptLength_6 ?_
    refine lv_icmp_ge (tgt := 46) hx hb dX3_keptLength_9 (by decide) (fun hc => ?_) (fun hc => ?_)
    · have hm := ifp hc hm
      cases sm hm
      cases sm hm2
      exact kk _ _ _ X (lv_sub hl [1] rfl)
    · have hm := ifn hc hm
      refine lv_aload_n hx hb dX3_keptLength_12 rfl (lv_at hl 0 rfl) ?_
      refine lv_iload_n hx hb dX3_keptLength_13 rfl (lv_at hl 2 rfl) ?_
      obtain ⟨r5, hcl, hm⟩ := bnd hm
      refine kVW C X (kX3_isKept l g a x2 w3 r5 hcl) (cw_X3_keptLength_X3_isKept_52 C) 0 (ci := 3) rfl rfl (As := [.int x2]) rfl hl (rest := []) rfl (Nat.le_of_ble_eq_true rfl) (st2 := [.int r5]) rfl dX3_keptLength_14 ⟨Nat.le_of_ble_eq_true rfl, Nat.le_of_ble_eq_true rfl⟩ (fun H locs X => ?_)
      clear hcl
      obtain ⟨v9, hE, hm⟩ := bnd hm
      have K : ∀ (H : Heap) (locs : List Loc) (ls : Array Slot), ST g A s H locs (wS g a w3) → lv_has ls 3 [(0, .ref (a 0)), (1, .int v9), (2, .int x2)] → W p l e rX3_keptLength s m args below meth c H locs 0 0 Q (F0 m 40 ls []) := by
        intro H locs ls X hl
        clear hE
        refine lv_iinc (v := x2 + 1) (lv' := [(2, .int (x2 + 1)), (0, .ref (a 0)), (1, .int v9)]) hx hb dX3_keptLength_40 hl (k := 2) rfl rfl (by decide) rfl (fun ls hl => ?_)
        refine lv_goto (tgt := 4) hx hb dX3_keptLength_43 (by decide) ?_
        cases sm hm
        exact ih _ _ hm2 _ _ _ X (lv_sub hl [1, 2, 0] rfl)
      clear hm
      have hm := hE
      clear hE
      refine lv_if_eq (tgt := 40) hx hb dX3_keptLength_17 (by decide) (fun hc => ?_) (fun hc => ?_)
      · have hm := ifp hc hm
        cases sm hm
        exact K _ _ _ X (lv_sub hl [0, 1, 2] rfl)
      · have hm := ifn hc hm
        refine lv_iload_n hx hb dX3_keptLength_20 rfl (lv_at hl 1 rfl) ?_
        refine lv_ldc2 (v := 10000) hx hb C.2.2.2.2.1 (C.2.2.2.2.2.1 (.constantLong RX3 69 10000) (by decide +kernel)) dX3_keptLength_21 ?_
        refine lv_aload_n hx hb dX3_keptLength_24 rfl (lv_at hl 0 rfl) ?_
        refine lv_aload_n hx hb dX3_keptLength_25 rfl (lv_at hl 0 rfl) ?_
        refine lv_iload_n hx hb dX3_keptLength_26 rfl (lv_at hl 2 rfl) ?_
        obtain ⟨r10, hcl, hm⟩ := bnd hm
        refine kVW C X (kX3_keptBefore l g a x2 w3 r10 hcl) (cw_X3_keptLength_X3_keptBefore_79 C) 0 (ci := 3) rfl rfl (As := [.int x2]) rfl hl (rest := [.ref (a 0), .long 10000, .int x1]) rfl (Nat.le_of_ble_eq_true rfl) (st2 := [.int r10, .ref (a 0), .long 10000, .int x1]) rfl dX3_keptLength_27 ⟨Nat.le_of_ble_eq_true rfl, Nat.le_of_ble_eq_true rfl⟩ (fun H locs X => ?_)
        clear hcl
        refine lv_iload_n hx hb dX3_keptLength_30 rfl (lv_at hl 2 rfl) ?_
        obtain ⟨r11, hcl, hm⟩ := bnd hm
        refine kVW C X (kX3_square l g a r10 x2 w3 r11 hcl) (cw_X3_keptLength_X3_square_62 C) 0 (ci := 3) rfl rfl (As := [.int r10, .int x2]) rfl hl (rest := [.long 10000, .int x1]) rfl (Nat.le_of_ble_eq_true rfl) (st2 := [.long r11, .long 10000, .int x1]) rfl dX3_keptLength_31 ⟨Nat.le_of_ble_eq_true rfl, Nat.le_of_ble_eq_true rfl⟩ (fun H locs X => ?_)
        clear hcl
        refine lv_lmul hx hb dX3_keptLength_34 ?_
        obtain ⟨r12, hcl, hm⟩ := bnd hm
        refine kN0 C X (kX5_root l g (10000 * r11) r12 hcl) (cw_X3_keptLength_X5_root_75 C) (As := [.long (10000 * r11)]) rfl hl (rest := [.int x1]) rfl (Nat.le_of_ble_eq_true rfl) (st2 := [.int r12, .int x1]) rfl dX3_keptLength_35 ⟨Nat.le_of_ble_eq_true rfl, Nat.le_of_ble_eq_true rfl⟩ (fun H locs X => ?_)
        clear hcl
        refine lv_iadd hx hb dX3_keptLength_38 ?_
        refine lv_istore_n (lv' := [(1, .int (x1 + r12)), (0, .ref (a 0)), (2, .int x2)]) hx hb dX3_keptLength_39 rfl hl (by decide) rfl (fun ls hl => ?_)
        cases sm hm
        exact K _ _ _ X (lv_sub hl [1, 0, 2] rfl)
noncomputable def fX3_keptLength (u : SS) : Option (Int32) := (lX3_keptLength_4 u 0 1).bind fun y13 => some y13
set_option maxRecDepth 100000 in
set_option maxHeartbeats 4000000 in
theorem kX3_keptLength (l : Launch) (g : kG) (a : Nat → Nat) (u : SS) (o1 : Int32) (hm : fX3_keptLength u = some o1) : KM l yX3_keptLength wsX3_keptLength rX3_keptLength g [.ref (a 0)] (wS g a u) (some (.int o1)) (wS g a u) 0 0 := by
  refine KM.of (nL := 3) (by decide) rfl (Nat.le_of_ble_eq_true rfl) ?_
  intro p e s m args below meth c A ls C X hl
  have C : CT g p s m args meth c RX3 cX3_keptLength 3 (some .int) wsX3_keptLength A := C
  have hx := C.1
  have hb := C.2.1
  have hl : lv_has ls 3 [(0, .ref (a 0))] := hl
  rw [fX3_keptLength] at hm
  refine lv_iconst (v := 0) hx hb dX3_keptLength_0 (by decide) ?_
  refine lv_istore_n (lv' := [(1, .int 0), (0, .ref (a 0))]) hx hb dX3_keptLength_1 rfl hl (by decide) rfl (fun ls hl => ?_)
  refine lv_iconst (v := 1) hx hb dX3_keptLength_2 (by decide) ?_
  refine lv_istore_n (lv' := [(2, .int 1), (1, .int 0), (0, .ref (a 0))]) hx hb dX3_keptLength_3 rfl hl (by decide) rfl (fun ls hl => ?_)
  obtain ⟨y13, hL, hm⟩ := bnd hm
  obtain ⟨nn, hn⟩ := lp_run hL
  refine tX3_keptLength_4 a C u y13 (fun H locs ls X hl => ?_) nn _ _ hn _ _ _ X (lv_sub hl [2, 1, 0] rfl)
  clear hL hn
  refine lv_iload_n hx hb dX3_keptLength_46 rfl (lv_at hl 0 rfl) ?_
  cases sm hm
  exact kiret C X dX3_keptLength_47
-- X3 BrushStrokes$Stroke.sharpJoins(I)I
abbrev rX3_sharpJoins : Room := { frames := 3, cells := 0, slots := 0, locals := 76 }
theorem fl_X3_sharpJoins_15 : (Cond.fieldLink RX3 15 "BrushStrokes$Stroke" "size" "I") ∈ wsX3_sharpJoins := by decide +kernel
theorem in_X3_sharpJoins_X3 : ∀ w ∈ u_ws RX3 TX3 3, w ∈ wsX3_sharpJoins := by decide +kernel
theorem cw_X3_sharpJoins_X3_isKept_52 {p : Program} {s : State} {m : MethodId} {args : Array Value} {meth : Method} {c : Code} {g : kG} {A : Nat → Prop} (C : CT g p s m args meth c RX3 cX3_sharpJoins 4 (some .int) wsX3_sharpJoins A) : CallW rX3_sharpJoins s args RX3 RX3 52 yX3_isKept cX3_isKept 2 (some .boolean) wsX3_isKept rX3_isKept 0 0 1 := cwV 1 C.2.2.2.2.2.1 gX3_sharpJoins_X3_isKept rfl rfl rfl (by decide +kernel) ⟨Nat.le_of_ble_eq_true rfl, Nat.le_of_ble_eq_true rfl⟩
theorem cw_X3_sharpJoins_X3_keptBefore_79 {p : Program} {s : State} {m : MethodId} {args : Array Value} {meth : Method} {c : Code} {g : kG} {A : Nat → Prop} (C : CT g p s m args meth c RX3 cX3_sharpJoins 4 (some .int) wsX3_sharpJoins A) : CallW rX3_sharpJoins s args RX3 RX3 79 yX3_keptBefore cX3_keptBefore 3 (some .int) wsX3_keptBefore rX3_keptBefore 0 0 1 := cwV 1 C.2.2.2.2.2.1 gX3_sharpJoins_X3_keptBefore rfl rfl rfl (by decide +kernel) ⟨Nat.le_of_ble_eq_true rfl, Nat.le_of_ble_eq_true rfl⟩
theorem cw_X3_sharpJoins_X3_keptBehind_82 {p : Program} {s : State} {m : MethodId} {args : Array Value} {meth : Method} {c : Code} {g : kG} {A : Nat → Prop} (C : CT g p s m args meth c RX3 cX3_sharpJoins 4 (some .int) wsX3_sharpJoins A) : CallW rX3_sharpJoins s args RX3 RX3 82 yX3_keptBehind cX3_keptBehind 3 (some .int) wsX3_keptBehind rX3_keptBehind 0 0 1 := cwV 1 C.2.2.2.2.2.1 gX3_sharpJoins_X3_keptBehind rfl rfl rfl (by decide +kernel) ⟨Nat.le_of_ble_eq_true rfl, Nat.le_of_ble_eq_true rfl⟩
theorem cw_X3_sharpJoins_X3_isSharp_98 {p : Program} {s : State} {m : MethodId} {args : Array Value} {meth : Method} {c : Code} {g : kG} {A : Nat → Prop} (C : CT g p s m args meth c RX3 cX3_sharpJoins 4 (some .int) wsX3_sharpJoins A) : CallW rX3_sharpJoins s args RX3 RX3 98 yX3_isSharp cX3_isSharp 9 (some .boolean) wsX3_isSharp rX3_isSharp 0 0 4 := cwV 4 C.2.2.2.2.2.1 gX3_sharpJoins_X3_isSharp rfl rfl rfl (by decide +kernel) ⟨Nat.le_of_ble_eq_true rfl, Nat.le_of_ble_eq_true rfl⟩
noncomputable def bX3_sharpJoins_4 (c1 : Int32) (w4 : SS) : Int32 × Int32 → Option ((Int32 × Int32) ⊕ (Int32))
  | (x2, x3) => if ((S_size w4) - 1) ≤ x3 then (some (.inr x2)) else ((fX3_isKept x3 w4).bind fun r6 => (if r6 = 0 then (some x2) else ((fX3_keptBefore x3 w4).bind fun r11 => (fX3_keptBehind x3 w4).bind fun r12 => (fX3_isSharp r11 x3 r12 c1 w4).bind fun r13 => if r13 = 0 then (some x2) else (some (x2 + 1)))).bind fun v10 => some (.inl (v10, x3 + 1)))
noncomputable def lX3_sharpJoins_4 (c1 : Int32) (w4 : SS) (x2 : Int32) (x3 : Int32) : Option (Int32) := lp (bX3_sharpJoins_4 c1 w4) (x2, x3)
theorem lX3_sharpJoins_4_eq (c1 : Int32) (w4 : SS) (x2 : Int32) (x3 : Int32) : lX3_sharpJoins_4 c1 w4 x2 x3 = (if ((S_size w4) - 1) ≤ x3 then (some (.inr x2)) else ((fX3_isKept x3 w4).bind fun r6 => (if r6 = 0 then (some x2) else ((fX3_keptBefore x3 w4).bind fun r11 => (fX3_keptBehind x3 w4).bind fun r12 => (fX3_isSharp r11 x3 r12 c1 w4).bind fun r13 => if r13 = 0 then (some x2) else (some (x2 + 1)))).bind fun v10 => some (.inl (v10, x3 + 1)))).bind fun r => Sum.elim (fun z => lX3_sharpJoins_4 c1 w4 z.1 z.2) (fun r => some r) r := lp_eq (bX3_sharpJoins_4 c1 w4) (x2, x3)
set_option maxRecDepth 100000 in
set_option maxHeartbeats 4000000 in
theorem tX3_sharpJoins_4 {p : Program} {l : Launch} {e : Env} {s : State} {m : MethodId} {args : Array Value} {below : List Frame} {meth : Method} {c : Code} {g : kG} {A : Nat → Prop} {Q : State → Prop} (a : Nat → Nat) (C : CT g p s m args meth c RX3 cX3_sharpJoins 4 (some .int) wsX3_sharpJoins A) (c1 : Int32) (w4 : SS) (y5 : Int32) (kk : ∀ (H : Heap) (locs : List Loc) (ls : Array Slot), ST g A s H locs (wS g a w4) → lv_has ls 4 [(2, .int y5)] → W p l e rX3_sharpJoins s m args below meth c H locs 0 0 Q (F0 m 50 ls [])) : ∀ (n : Nat) (x2 : Int32) (x3 : Int32), whl (bX3_sharpJoins_4 c1 w4) n (x2, x3) = some y5 → ∀ (H : Heap) (locs : List Loc) (ls : Array Slot), ST g A s H locs (wS g a w4) → lv_has ls 4 [(0, .ref (a 0)), (1, .int c1), (2, .int x2), (3, .int x3)] → W p l e rX3_sharpJoins s m args below meth c H locs 0 0 Q (F0 m 4 ls []) := by
  have hx := C.1
  have hb := C.2.1
  have hinX3 := in_X3_sharpJoins_X3
  have hf15 := C.2.2.2.2.2.1 _ fl_X3_sharpJoins_15
  intro n
  induction n with
  | zero =>
    intro x2 x3 hm
    cases hm
  | succ n ih =>
    intro x2 x3 hm H locs ls X hl
    rw [whl] at hm
    obtain ⟨q, hq, hm2⟩ := bnd hm
    clear hm
    have hm := hq
    clear hq
    rw [bX3_sharpJoins_4] at hm
    refine lv_iload_n hx hb dX3_sharpJoins_4 rfl (lv_at hl 3 rfl) ?_
    refine lv_aload_n hx hb dX3_sharpJoins_5 rfl (lv_at hl 0 rfl) ?_
    refine kget C X 0 (ci := 3) rfl rfl hinX3 1 (by decide) hf15 (v := .int (S_size w4)) rfl dX3_sharpJoins_6 ?_
    refine lv_iconst (v := 1) hx hb dX3_sharpJoins_9 (by decide) ?_
    refine lv_isub hx hb dX3_sharpJoins_10 ?_
    refine lv_icmp_ge (tgt := 50) hx hb dX3_sharpJoins_11 (by decide) (fun hc => ?_) (fun hc => ?_)
    · have hm := ifp hc hm
      cases sm hm
      cases sm hm2
      exact kk _ _ _ X (lv_sub hl [2] rfl)
    · have hm := ifn hc hm
      refine lv_aload_n hx hb dX3_sharpJoins_14 rfl (lv_at hl 0 rfl) ?_
      refine lv_iload_n hx hb dX3_sharpJoins_15 rfl (lv_at hl 3 rfl) ?_
      obtain ⟨r6, hcl, hm⟩ := bnd hm
      refine kVW C X (kX3_isKept l g a x3 w4 r6 hcl) (cw_X3_sharpJoins_X3_isKept_52 C) 0 (ci := 3) rfl rfl (As := [.int x3]) rfl hl (rest := []) rfl (Nat.le_of_ble_eq_true rfl) (st2 := [.int r6]) rfl dX3_sharpJoins_16 ⟨Nat.le_of_ble_eq_true rfl, Nat.le_of_ble_eq_true rfl⟩ (fun H locs X => ?_)
      clear hcl
      obtain ⟨v10, hE, hm⟩ := bnd hm
      have K : ∀ (H : Heap) (locs : List Loc) (ls : Array Slot), ST g A s H locs (wS g a w4) → lv_has ls 4 [(0, .ref (a 0)), (1, .int c1), (2, .int v10), (3, .int x3)] → W p l e rX3_sharpJoins s m args below meth c H locs 0 0 Q (F0 m 44 ls []) := by
        intro H locs ls X hl
        clear hE
        refine lv_iinc (v := x3 + 1) (lv' := [(3, .int (x3 + 1)), (0, .ref (a 0)), (1, .int c1), (2, .int v10)]) hx hb dX3_sharpJoins_44 hl (k := 3) rfl rfl (by decide) rfl (fun ls hl => ?_)
        refine lv_goto (tgt := 4) hx hb dX3_sharpJoins_47 (by decide) ?_
        cases sm hm
        exact ih _ _ hm2 _ _ _ X (lv_sub hl [1, 2, 3, 0] rfl)
      clear hm
      have hm := hE
      clear hE
      refine lv_if_eq (tgt := 44) hx hb dX3_sharpJoins_19 (by decide) (fun hc => ?_) (fun hc => ?_)
      · have hm := ifp hc hm
        cases sm hm
        exact K _ _ _ X (lv_sub hl [0, 1, 2, 3] rfl)
      · have hm := ifn hc hm
        refine lv_aload_n hx hb dX3_sharpJoins_22 rfl (lv_at hl 0 rfl) ?_
        refine lv_aload_n hx hb dX3_sharpJoins_23 rfl (lv_at hl 0 rfl) ?_
        refine lv_iload_n hx hb dX3_sharpJoins_24 rfl (lv_at hl 3 rfl) ?_
        obtain ⟨r11, hcl, hm⟩ := bnd hm
        refine kVW C X (kX3_keptBefore l g a x3 w4 r11 hcl) (cw_X3_sharpJoins_X3_keptBefore_79 C) 0 (ci := 3) rfl rfl (As := [.int x3]) rfl hl (rest := [.ref (a 0)]) rfl (Nat.le_of_ble_eq_true rfl) (st2 := [.int r11, .ref (a 0)]) rfl dX3_sharpJoins_25 ⟨Nat.le_of_ble_eq_true rfl, Nat.le_of_ble_eq_true rfl⟩ (fun H locs X => ?_)
        clear hcl
        refine lv_iload_n hx hb dX3_sharpJoins_28 rfl (lv_at hl 3 rfl) ?_
        refine lv_aload_n hx hb dX3_sharpJoins_29 rfl (lv_at hl 0 rfl) ?_
        refine lv_iload_n hx hb dX3_sharpJoins_30 rfl (lv_at hl 3 rfl) ?_
        obtain ⟨r12, hcl, hm⟩ := bnd hm
        refine kVW C X (kX3_keptBehind l g a x3 w4 r12 hcl) (cw_X3_sharpJoins_X3_keptBehind_82 C) 0 (ci := 3) rfl rfl (As := [.int x3]) rfl hl (rest := [.int x3, .int r11, .ref (a 0)]) rfl (Nat.le_of_ble_eq_true rfl) (st2 := [.int r12, .int x3, .int r11, .ref (a 0)]) rfl dX3_sharpJoins_31 ⟨Nat.le_of_ble_eq_true rfl, Nat.le_of_ble_eq_true rfl⟩ (fun H locs X => ?_)
        clear hcl
        refine lv_iload_n hx hb dX3_sharpJoins_34 rfl (lv_at hl 1 rfl) ?_
        obtain ⟨r13, hcl, hm⟩ := bnd hm
        refine kVW C X (kX3_isSharp l g a r11 x3 r12 c1 w4 r13 hcl) (cw_X3_sharpJoins_X3_isSharp_98 C) 0 (ci := 3) rfl rfl (As := [.int r11, .int x3, .int r12, .int c1]) rfl hl (rest := []) rfl (Nat.le_of_ble_eq_true rfl) (st2 := [.int r13]) rfl dX3_sharpJoins_35 ⟨Nat.le_of_ble_eq_true rfl, Nat.le_of_ble_eq_true rfl⟩ (fun H locs X => ?_)
        clear hcl
        refine lv_if_eq (tgt := 44) hx hb dX3_sharpJoins_38 (by decide) (fun hc => ?_) (fun hc => ?_)
        · have hm := ifp hc hm
          cases sm hm
          exact K _ _ _ X (lv_sub hl [0, 1, 2, 3] rfl)
        · have hm := ifn hc hm
          refine lv_iinc (v := x2 + 1) (lv' := [(2, .int (x2 + 1)), (0, .ref (a 0)), (1, .int c1), (3, .int x3)]) hx hb dX3_sharpJoins_41 hl (k := 2) rfl rfl (by decide) rfl (fun ls hl => ?_)
          cases sm hm
          exact K _ _ _ X (lv_sub hl [1, 2, 0, 3] rfl)
noncomputable def fX3_sharpJoins (p1 : Int32) (u : SS) : Option (Int32) := (lX3_sharpJoins_4 p1 u 0 1).bind fun y14 => some y14
set_option maxRecDepth 100000 in
set_option maxHeartbeats 4000000 in
theorem kX3_sharpJoins (l : Launch) (g : kG) (a : Nat → Nat) (p1 : Int32) (u : SS) (o1 : Int32) (hm : fX3_sharpJoins p1 u = some o1) : KM l yX3_sharpJoins wsX3_sharpJoins rX3_sharpJoins g [.ref (a 0), .int p1] (wS g a u) (some (.int o1)) (wS g a u) 0 0 := by
  refine KM.of (nL := 4) (by decide) rfl (Nat.le_of_ble_eq_true rfl) ?_
  intro p e s m args below meth c A ls C X hl
  have C : CT g p s m args meth c RX3 cX3_sharpJoins 4 (some .int) wsX3_sharpJoins A := C
  have hx := C.1
  have hb := C.2.1
  have hl : lv_has ls 4 [(0, .ref (a 0)), (1, .int p1)] := hl
  rw [fX3_sharpJoins] at hm
  refine lv_iconst (v := 0) hx hb dX3_sharpJoins_0 (by decide) ?_
  refine lv_istore_n (lv' := [(2, .int 0), (0, .ref (a 0)), (1, .int p1)]) hx hb dX3_sharpJoins_1 rfl hl (by decide) rfl (fun ls hl => ?_)
  refine lv_iconst (v := 1) hx hb dX3_sharpJoins_2 (by decide) ?_
  refine lv_istore_n (lv' := [(3, .int 1), (2, .int 0), (0, .ref (a 0)), (1, .int p1)]) hx hb dX3_sharpJoins_3 rfl hl (by decide) rfl (fun ls hl => ?_)
  obtain ⟨y14, hL, hm⟩ := bnd hm
  obtain ⟨nn, hn⟩ := lp_run hL
  refine tX3_sharpJoins_4 a C p1 u y14 (fun H locs ls X hl => ?_) nn _ _ hn _ _ _ X (lv_sub hl [2, 3, 1, 0] rfl)
  clear hL hn
  refine lv_iload_n hx hb dX3_sharpJoins_50 rfl (lv_at hl 0 rfl) ?_
  cases sm hm
  exact kiret C X dX3_sharpJoins_51
-- X3 BrushStrokes$Stroke.areApart(IIII)Z
abbrev rX3_areApart : Room := { frames := 2, cells := 0, slots := 0, locals := 45 }
theorem cw_X3_areApart_X3_sideOf_114 {p : Program} {s : State} {m : MethodId} {args : Array Value} {meth : Method} {c : Code} {g : kG} {A : Nat → Prop} (C : CT g p s m args meth c RX3 cX3_areApart 9 (some .boolean) wsX3_areApart A) : CallW rX3_areApart s args RX3 RX3 114 yX3_sideOf cX3_sideOf 4 (some .long) wsX3_sideOf rX3_sideOf 0 0 3 := cwV 3 C.2.2.2.2.2.1 gX3_areApart_X3_sideOf rfl rfl rfl (by decide +kernel) ⟨Nat.le_of_ble_eq_true rfl, Nat.le_of_ble_eq_true rfl⟩
noncomputable def fX3_areApart (p1 : Int32) (p2 : Int32) (p3 : Int32) (p4 : Int32) (u : SS) : Option (Int32) := (fX3_sideOf p3 p1 p2 u).bind fun r1 => (fX3_sideOf p4 p1 p2 u).bind fun r2 => (if 0 ≤ r1 then (if r1 ≤ 0 then (some 0) else (if 0 ≤ r2 then (some 0) else (some 1))) else (if 0 < r2 then (some 1) else (if r1 ≤ 0 then (some 0) else (if 0 ≤ r2 then (some 0) else (some 1))))).bind fun v3 => gd (isb v3) (some v3)
set_option maxRecDepth 100000 in
set_option maxHeartbeats 4000000 in
theorem kX3_areApart (l : Launch) (g : kG) (a : Nat → Nat) (p1 : Int32) (p2 : Int32) (p3 : Int32) (p4 : Int32) (u : SS) (o1 : Int32) (hm : fX3_areApart p1 p2 p3 p4 u = some o1) : KM l yX3_areApart wsX3_areApart rX3_areApart g [.ref (a 0), .int p1, .int p2, .int p3, .int p4] (wS g a u) (some (.int o1)) (wS g a u) 0 0 := by
  refine KM.of (nL := 9) (by decide) rfl (Nat.le_of_ble_eq_true rfl) ?_
  intro p e s m args below meth c A ls C X hl
  have C : CT g p s m args meth c RX3 cX3_areApart 9 (some .boolean) wsX3_areApart A := C
  have hx := C.1
  have hb := C.2.1
  have hl : lv_has ls 9 [(0, .ref (a 0)), (1, .int p1), (2, .int p2), (3, .int p3), (4, .int p4)] := hl
  rw [fX3_areApart] at hm
  refine lv_aload_n hx hb dX3_areApart_0 rfl (lv_at hl 0 rfl) ?_
  refine lv_iload_n hx hb dX3_areApart_1 rfl (lv_at hl 3 rfl) ?_
  refine lv_iload_n hx hb dX3_areApart_2 rfl (lv_at hl 1 rfl) ?_
  refine lv_iload_n hx hb dX3_areApart_3 rfl (lv_at hl 2 rfl) ?_
  obtain ⟨r1, hcl, hm⟩ := bnd hm
  refine kVW C X (kX3_sideOf l g a p3 p1 p2 u r1 hcl) (cw_X3_areApart_X3_sideOf_114 C) 0 (ci := 3) rfl rfl (As := [.int p3, .int p1, .int p2]) rfl hl (rest := []) rfl (Nat.le_of_ble_eq_true rfl) (st2 := [.long r1]) rfl dX3_areApart_4 ⟨Nat.le_of_ble_eq_true rfl, Nat.le_of_ble_eq_true rfl⟩ (fun H locs X => ?_)
  clear hcl
  refine lv_lstore (lv' := [(5, .long r1), (0, .ref (a 0)), (1, .int p1), (2, .int p2), (3, .int p3), (4, .int p4)]) hx hb dX3_areApart_7 hl (by decide) rfl (fun ls hl => ?_)
  refine lv_aload_n hx hb dX3_areApart_9 rfl (lv_at hl 1 rfl) ?_
  refine lv_iload hx hb dX3_areApart_10 (lv_at hl 5 rfl) ?_
  refine lv_iload_n hx hb dX3_areApart_12 rfl (lv_at hl 2 rfl) ?_
  refine lv_iload_n hx hb dX3_areApart_13 rfl (lv_at hl 3 rfl) ?_
  obtain ⟨r2, hcl, hm⟩ := bnd hm
  refine kVW C X (kX3_sideOf l g a p4 p1 p2 u r2 hcl) (cw_X3_areApart_X3_sideOf_114 C) 0 (ci := 3) rfl rfl (As := [.int p4, .int p1, .int p2]) rfl hl (rest := []) rfl (Nat.le_of_ble_eq_true rfl) (st2 := [.long r2]) rfl dX3_areApart_14 ⟨Nat.le_of_ble_eq_true rfl, Nat.le_of_ble_eq_true rfl⟩ (fun H locs X => ?_)
  clear hcl
  refine lv_lstore (lv' := [(7, .long r2), (5, .long r1), (0, .ref (a 0)), (1, .int p1), (2, .int p2), (3, .int p3), (4, .int p4)]) hx hb dX3_areApart_17 hl (by decide) rfl (fun ls hl => ?_)
  refine lv_lload hx hb dX3_areApart_19 (lv_at hl 1 rfl) ?_
  refine lv_lconst (v := 0) hx hb dX3_areApart_21 (by decide) ?_
  obtain ⟨v3, hE, hm⟩ := bnd hm
  have K : ∀ (H : Heap) (locs : List Loc) (ls : Array Slot), ST g A s H locs (wS g a u) → lv_has ls 9 [] → W p l e rX3_areApart s m args below meth c H locs 0 0 (kEnd g below args s (some (.int o1)) (wS g a u) A 0 0) (F0 m 52 ls [.int v3]) := by
    intro H locs ls X hl
    clear hE
    obtain ⟨hgb, hm⟩ := gd_t hm
    cases sm hm
    exact kzret (isb_n hgb) C X dX3_areApart_52
  clear hm
  have hm := hE
  clear hE
  refine klcmp_ge (tgt := 33) hx hb dX3_areApart_22 dX3_areApart_23 (by decide) (fun hc => ?_) (fun hc => ?_)
  · have hm := ifp hc hm
    refine lv_lload hx hb dX3_areApart_33 (lv_at hl 1 rfl) ?_
    refine lv_lconst (v := 0) hx hb dX3_areApart_35 (by decide) ?_
    refine klcmp_le (tgt := 51) hx hb dX3_areApart_36 dX3_areApart_37 (by decide) (fun hc => ?_) (fun hc => ?_)
    · have hm := ifp hc hm
      refine lv_iconst (v := 0) hx hb dX3_areApart_51 (by decide) ?_
      cases sm hm
      exact K _ _ _ X (lv_sub hl [] rfl)
    · have hm := ifn hc hm
      refine lv_lload hx hb dX3_areApart_40 (lv_at hl 0 rfl) ?_
      refine lv_lconst (v := 0) hx hb dX3_areApart_42 (by decide) ?_
      refine klcmp_ge (tgt := 51) hx hb dX3_areApart_43 dX3_areApart_44 (by decide) (fun hc => ?_) (fun hc => ?_)
      · have hm := ifp hc hm
        refine lv_iconst (v := 0) hx hb dX3_areApart_51 (by decide) ?_
        cases sm hm
        exact K _ _ _ X (lv_sub hl [] rfl)
      · have hm := ifn hc hm
        refine lv_iconst (v := 1) hx hb dX3_areApart_47 (by decide) ?_
        refine lv_goto (tgt := 52) hx hb dX3_areApart_48 (by decide) ?_
        cases sm hm
        exact K _ _ _ X (lv_sub hl [] rfl)
  · have hm := ifn hc hm
    refine lv_lload hx hb dX3_areApart_26 (lv_at hl 0 rfl) ?_
    refine lv_lconst (v := 0) hx hb dX3_areApart_28 (by decide) ?_
    refine klcmp_gt (tgt := 47) hx hb dX3_areApart_29 dX3_areApart_30 (by decide) (fun hc => ?_) (fun hc => ?_)
    · have hm := ifp hc hm
      refine lv_iconst (v := 1) hx hb dX3_areApart_47 (by decide) ?_
      refine lv_goto (tgt := 52) hx hb dX3_areApart_48 (by decide) ?_
      cases sm hm
      exact K _ _ _ X (lv_sub hl [] rfl)
    · have hm := ifn hc hm
      refine lv_lload hx hb dX3_areApart_33 (lv_at hl 1 rfl) ?_
      refine lv_lconst (v := 0) hx hb dX3_areApart_35 (by decide) ?_
      refine klcmp_le (tgt := 51) hx hb dX3_areApart_36 dX3_areApart_37 (by decide) (fun hc => ?_) (fun hc => ?_)
      · have hm := ifp hc hm
        refine lv_iconst (v := 0) hx hb dX3_areApart_51 (by decide) ?_
        cases sm hm
        exact K _ _ _ X (lv_sub hl [] rfl)
      · have hm := ifn hc hm
        refine lv_lload hx hb dX3_areApart_40 (lv_at hl 0 rfl) ?_
        refine lv_lconst (v := 0) hx hb dX3_areApart_42 (by decide) ?_
        refine klcmp_ge (tgt := 51) hx hb dX3_areApart_43 dX3_areApart_44 (by decide) (fun hc => ?_) (fun hc => ?_)
        · have hm := ifp hc hm
          refine lv_iconst (v := 0) hx hb dX3_areApart_51 (by decide) ?_
          cases sm hm
          exact K _ _ _ X (lv_sub hl [] rfl)
        · have hm := ifn hc hm
          refine lv_iconst (v := 1) hx hb dX3_areApart_47 (by decide) ?_
          refine lv_goto (tgt := 52) hx hb dX3_areApart_48 (by decide) ?_
          cases sm hm
          exact K _ _ _ X (lv_sub hl [] rfl)
-- X3 BrushStrokes$Stroke.cross(IIII)Z
abbrev rX3_cross : Room := { frames := 3, cells := 0, slots := 0, locals := 73 }
theorem cw_X3_cross_X3_areApart_111 {p : Program} {s : State} {m : MethodId} {args : Array Value} {meth : Method} {c : Code} {g : kG} {A : Nat → Prop} (C : CT g p s m args meth c RX3 cX3_cross 5 (some .boolean) wsX3_cross A) : CallW rX3_cross s args RX3 RX3 111 yX3_areApart cX3_areApart 9 (some .boolean) wsX3_areApart rX3_areApart 0 0 4 := cwV 4 C.2.2.2.2.2.1 gX3_cross_X3_areApart rfl rfl rfl (by decide +kernel) ⟨Nat.le_of_ble_eq_true rfl, Nat.le_of_ble_eq_true rfl⟩
noncomputable def fX3_cross (p1 : Int32) (p2 : Int32) (p3 : Int32) (p4 : Int32) (u : SS) : Option (Int32) := (fX3_areApart p1 p2 p3 p4 u).bind fun r1 => (if r1 = 0 then (some 0) else ((fX3_areApart p3 p4 p1 p2 u).bind fun r4 => if r4 = 0 then (some 0) else (some 1))).bind fun v3 => gd (isb v3) (some v3)
set_option maxRecDepth 100000 in
set_option maxHeartbeats 4000000 in
theorem kX3_cross (l : Launch) (g : kG) (a : Nat → Nat) (p1 : Int32) (p2 : Int32) (p3 : Int32) (p4 : Int32) (u : SS) (o1 : Int32) (hm : fX3_cross p1 p2 p3 p4 u = some o1) : KM l yX3_cross wsX3_cross rX3_cross g [.ref (a 0), .int p1, .int p2, .int p3, .int p4] (wS g a u) (some (.int o1)) (wS g a u) 0 0 := by
  refine KM.of (nL := 5) (by decide) rfl (Nat.le_of_ble_eq_true rfl) ?_
  intro p e s m args below meth c A ls C X hl
  have C : CT g p s m args meth c RX3 cX3_cross 5 (some .boolean) wsX3_cross A := C
  have hx := C.1
  have hb := C.2.1
  have hl : lv_has ls 5 [(0, .ref (a 0)), (1, .int p1), (2, .int p2), (3, .int p3), (4, .int p4)] := hl
  rw [fX3_cross] at hm
  refine lv_aload_n hx hb dX3_cross_0 rfl (lv_at hl 0 rfl) ?_
  refine lv_iload_n hx hb dX3_cross_1 rfl (lv_at hl 1 rfl) ?_
  refine lv_iload_n hx hb dX3_cross_2 rfl (lv_at hl 2 rfl) ?_
  refine lv_iload_n hx hb dX3_cross_3 rfl (lv_at hl 3 rfl) ?_
  refine lv_iload hx hb dX3_cross_4 (lv_at hl 4 rfl) ?_
  obtain ⟨r1, hcl, hm⟩ := bnd hm
  refine kVW C X (kX3_areApart l g a p1 p2 p3 p4 u r1 hcl) (cw_X3_cross_X3_areApart_111 C) 0 (ci := 3) rfl rfl (As := [.int p1, .int p2, .int p3, .int p4]) rfl hl (rest := []) rfl (Nat.le_of_ble_eq_true rfl) (st2 := [.int r1]) rfl dX3_cross_6 ⟨Nat.le_of_ble_eq_true rfl, Nat.le_of_ble_eq_true rfl⟩ (fun H locs X => ?_)
  clear hcl
  obtain ⟨v3, hE, hm⟩ := bnd hm
  have K : ∀ (H : Heap) (locs : List Loc) (ls : Array Slot), ST g A s H locs (wS g a u) → lv_has ls 5 [] → W p l e rX3_cross s m args below meth c H locs 0 0 (kEnd g below args s (some (.int o1)) (wS g a u) A 0 0) (F0 m 29 ls [.int v3]) := by
    intro H locs ls X hl
    clear hE
    obtain ⟨hgb, hm⟩ := gd_t hm
    cases sm hm
    exact kzret (isb_n hgb) C X dX3_cross_29
  clear hm
  have hm := hE
  clear hE
  refine lv_if_eq (tgt := 28) hx hb dX3_cross_9 (by decide) (fun hc => ?_) (fun hc => ?_)
  · have hm := ifp hc hm
    refine lv_iconst (v := 0) hx hb dX3_cross_28 (by decide) ?_
    cases sm hm
    exact K _ _ _ X (lv_sub hl [] rfl)
  · have hm := ifn hc hm
    refine lv_aload_n hx hb dX3_cross_12 rfl (lv_at hl 0 rfl) ?_
    refine lv_iload_n hx hb dX3_cross_13 rfl (lv_at hl 3 rfl) ?_
    refine lv_iload hx hb dX3_cross_14 (lv_at hl 4 rfl) ?_
    refine lv_iload_n hx hb dX3_cross_16 rfl (lv_at hl 1 rfl) ?_
    refine lv_iload_n hx hb dX3_cross_17 rfl (lv_at hl 2 rfl) ?_
    obtain ⟨r4, hcl, hm⟩ := bnd hm
    refine kVW C X (kX3_areApart l g a p3 p4 p1 p2 u r4 hcl) (cw_X3_cross_X3_areApart_111 C) 0 (ci := 3) rfl rfl (As := [.int p3, .int p4, .int p1, .int p2]) rfl hl (rest := []) rfl (Nat.le_of_ble_eq_true rfl) (st2 := [.int r4]) rfl dX3_cross_18 ⟨Nat.le_of_ble_eq_true rfl, Nat.le_of_ble_eq_true rfl⟩ (fun H locs X => ?_)
    clear hcl
    refine lv_if_eq (tgt := 28) hx hb dX3_cross_21 (by decide) (fun hc => ?_) (fun hc => ?_)
    · have hm := ifp hc hm
      refine lv_iconst (v := 0) hx hb dX3_cross_28 (by decide) ?_
      cases sm hm
      exact K _ _ _ X (lv_sub hl [] rfl)
    · have hm := ifn hc hm
      refine lv_iconst (v := 1) hx hb dX3_cross_24 (by decide) ?_
      refine lv_goto (tgt := 29) hx hb dX3_cross_25 (by decide) ?_
      cases sm hm
      exact K _ _ _ X (lv_sub hl [] rfl)
-- X3 BrushStrokes$Stroke.crossingsBehind(I)I
abbrev rX3_crossingsBehind : Room := { frames := 4, cells := 0, slots := 0, locals := 97 }
theorem fl_X3_crossingsBehind_15 : (Cond.fieldLink RX3 15 "BrushStrokes$Stroke" "size" "I") ∈ wsX3_crossingsBehind := by decide +kernel
theorem in_X3_crossingsBehind_X3 : ∀ w ∈ u_ws RX3 TX3 3, w ∈ wsX3_crossingsBehind := by decide +kernel
theorem cw_X3_crossingsBehind_X3_keptBefore_79 {p : Program} {s : State} {m : MethodId} {args : Array Value} {meth : Method} {c : Code} {g : kG} {A : Nat → Prop} (C : CT g p s m args meth c RX3 cX3_crossingsBehind 5 (some .int) wsX3_crossingsBehind A) : CallW rX3_crossingsBehind s args RX3 RX3 79 yX3_keptBefore cX3_keptBefore 3 (some .int) wsX3_keptBefore rX3_keptBefore 0 0 1 := cwV 1 C.2.2.2.2.2.1 gX3_crossingsBehind_X3_keptBefore rfl rfl rfl (by decide +kernel) ⟨Nat.le_of_ble_eq_true rfl, Nat.le_of_ble_eq_true rfl⟩
theorem cw_X3_crossingsBehind_X3_isKept_52 {p : Program} {s : State} {m : MethodId} {args : Array Value} {meth : Method} {c : Code} {g : kG} {A : Nat → Prop} (C : CT g p s m args meth c RX3 cX3_crossingsBehind 5 (some .int) wsX3_crossingsBehind A) : CallW rX3_crossingsBehind s args RX3 RX3 52 yX3_isKept cX3_isKept 2 (some .boolean) wsX3_isKept rX3_isKept 0 0 1 := cwV 1 C.2.2.2.2.2.1 gX3_crossingsBehind_X3_isKept rfl rfl rfl (by decide +kernel) ⟨Nat.le_of_ble_eq_true rfl, Nat.le_of_ble_eq_true rfl⟩
theorem cw_X3_crossingsBehind_X3_keptBehind_82 {p : Program} {s : State} {m : MethodId} {args : Array Value} {meth : Method} {c : Code} {g : kG} {A : Nat → Prop} (C : CT g p s m args meth c RX3 cX3_crossingsBehind 5 (some .int) wsX3_crossingsBehind A) : CallW rX3_crossingsBehind s args RX3 RX3 82 yX3_keptBehind cX3_keptBehind 3 (some .int) wsX3_keptBehind rX3_keptBehind 0 0 1 := cwV 1 C.2.2.2.2.2.1 gX3_crossingsBehind_X3_keptBehind rfl rfl rfl (by decide +kernel) ⟨Nat.le_of_ble_eq_true rfl, Nat.le_of_ble_eq_true rfl⟩
theorem cw_X3_crossingsBehind_X3_cross_108 {p : Program} {s : State} {m : MethodId} {args : Array Value} {meth : Method} {c : Code} {g : kG} {A : Nat → Prop} (C : CT g p s m args meth c RX3 cX3_crossingsBehind 5 (some .int) wsX3_crossingsBehind A) : CallW rX3_crossingsBehind s args RX3 RX3 108 yX3_cross cX3_cross 5 (some .boolean) wsX3_cross rX3_cross 0 0 4 := cwV 4 C.2.2.2.2.2.1 gX3_crossingsBehind_X3_cross rfl rfl rfl (by decide +kernel) ⟨Nat.le_of_ble_eq_true rfl, Nat.le_of_ble_eq_true rfl⟩
noncomputable def bX3_crossingsBehind_13 (c2 : Int32) (c3 : Int32) (w6 : SS) : Int32 × Int32 → Option ((Int32 × Int32) ⊕ (Int32))
  | (x4, x5) => if ((S_size w6) - 1) ≤ x5 then (some (.inr x4)) else ((fX3_isKept x5 w6).bind fun r8 => (if r8 = 0 then (some x4) else ((fX3_keptBehind x5 w6).bind fun r12 => (fX3_cross c3 c2 x5 r12 w6).bind fun r13 => if r13 = 0 then (some x4) else (some (x4 + 1)))).bind fun v11 => some (.inl (v11, x5 + 1)))
noncomputable def lX3_crossingsBehind_13 (c2 : Int32) (c3 : Int32) (w6 : SS) (x4 : Int32) (x5 : Int32) : Option (Int32) := lp (bX3_crossingsBehind_13 c2 c3 w6) (x4, x5)
theorem lX3_crossingsBehind_13_eq (c2 : Int32) (c3 : Int32) (w6 : SS) (x4 : Int32) (x5 : Int32) : lX3_crossingsBehind_13 c2 c3 w6 x4 x5 = (if ((S_size w6) - 1) ≤ x5 then (some (.inr x4)) else ((fX3_isKept x5 w6).bind fun r8 => (if r8 = 0 then (some x4) else ((fX3_keptBehind x5 w6).bind fun r12 => (fX3_cross c3 c2 x5 r12 w6).bind fun r13 => if r13 = 0 then (some x4) else (some (x4 + 1)))).bind fun v11 => some (.inl (v11, x5 + 1)))).bind fun r => Sum.elim (fun z => lX3_crossingsBehind_13 c2 c3 w6 z.1 z.2) (fun r => some r) r := lp_eq (bX3_crossingsBehind_13 c2 c3 w6) (x4, x5)
set_option maxRecDepth 100000 in
set_option maxHeartbeats 4000000 in
theorem tX3_crossingsBehind_13 {p : Program} {l : Launch} {e : Env} {s : State} {m : MethodId} {args : Array Value} {below : List Frame} {meth : Method} {c : Code} {g : kG} {A : Nat → Prop} {Q : State → Prop} (a : Nat → Nat) (C : CT g p s m args meth c RX3 cX3_crossingsBehind 5 (some .int) wsX3_crossingsBehind A) (c2 : Int32) (c3 : Int32) (w6 : SS) (y7 : Int32) (kk : ∀ (H : Heap) (locs : List Loc) (ls : Array Slot), ST g A s H locs (wS g a w6) → lv_has ls 5 [(3, .int y7)] → W p l e rX3_crossingsBehind s m args below meth c H locs 0 0 Q (F0 m 59 ls [])) : ∀ (n : Nat) (x4 : Int32) (x5 : Int32), whl (bX3_crossingsBehind_13 c2 c3 w6) n (x4, x5) = some y7 → ∀ (H : Heap) (locs : List Loc) (ls : Array Slot), ST g A s H locs (wS g a w6) → lv_has ls 5 [(0, .ref (a 0)), (1, .int c2), (2, .int c3), (3, .int x4), (4, .int x5)] → W p l e rX3_crossingsBehind s m args below meth c H locs 0 0 Q (F0 m 13 ls []) := by
  have hx := C.1
  have hb := C.2.1
  have hinX3 := in_X3_crossingsBehind_X3
  have hf15 := C.2.2.2.2.2.1 _ fl_X3_crossingsBehind_15
  intro n
  induction n with
  | zero =>
    intro x4 x5 hm
    cases hm
  | succ n ih =>
    intro x4 x5 hm H locs ls X hl
    rw [whl] at hm
    obtain ⟨q, hq, hm2⟩ := bnd hm
    clear hm
    have hm := hq
    clear hq
    rw [bX3_crossingsBehind_13] at hm
    refine lv_iload hx hb dX3_crossingsBehind_13 (lv_at hl 4 rfl) ?_
    refine lv_aload_n hx hb dX3_crossingsBehind_15 rfl (lv_at hl 0 rfl) ?_
    refine kget C X 0 (ci := 3) rfl rfl hinX3 1 (by decide) hf15 (v := .int (S_size w6)) rfl dX3_crossingsBehind_16 ?_
    refine lv_iconst (v := 1) hx hb dX3_crossingsBehind_19 (by decide) ?_
    refine lv_isub hx hb dX3_crossingsBehind_20 ?_
    refine lv_icmp_ge (tgt := 59) hx hb dX3_crossingsBehind_21 (by decide) (fun hc => ?_) (fun hc => ?_)
    · have hm := ifp hc hm
      cases sm hm
      cases sm hm2
      exact kk _ _ _ X (lv_sub hl [3] rfl)
    · have hm := ifn hc hm
      refine lv_aload_n hx hb dX3_crossingsBehind_24 rfl (lv_at hl 0 rfl) ?_
      refine lv_iload hx hb dX3_crossingsBehind_25 (lv_at hl 4 rfl) ?_
      obtain ⟨r8, hcl, hm⟩ := bnd hm
      refine kVW C X (kX3_isKept l g a x5 w6 r8 hcl) (cw_X3_crossingsBehind_X3_isKept_52 C) 0 (ci := 3) rfl rfl (As := [.int x5]) rfl hl (rest := []) rfl (Nat.le_of_ble_eq_true rfl) (st2 := [.int r8]) rfl dX3_crossingsBehind_27 ⟨Nat.le_of_ble_eq_true rfl, Nat.le_of_ble_eq_true rfl⟩ (fun H locs X => ?_)
      clear hcl
      obtain ⟨v11, hE, hm⟩ := bnd hm
      have K : ∀ (H : Heap) (locs : List Loc) (ls : Array Slot), ST g A s H locs (wS g a w6) → lv_has ls 5 [(0, .ref (a 0)), (1, .int c2), (2, .int c3), (3, .int v11), (4, .int x5)] → W p l e rX3_crossingsBehind s m args below meth c H locs 0 0 Q (F0 m 53 ls []) := by
        intro H locs ls X hl
        clear hE
        refine lv_iinc (v := x5 + 1) (lv' := [(4, .int (x5 + 1)), (0, .ref (a 0)), (1, .int c2), (2, .int c3), (3, .int v11)]) hx hb dX3_crossingsBehind_53 hl (k := 4) rfl rfl (by decide) rfl (fun ls hl => ?_)
        refine lv_goto (tgt := 13) hx hb dX3_crossingsBehind_56 (by decide) ?_
        cases sm hm
        exact ih _ _ hm2 _ _ _ X (lv_sub hl [1, 2, 3, 4, 0] rfl)
      clear hm
      have hm := hE
      clear hE
      refine lv_if_eq (tgt := 53) hx hb dX3_crossingsBehind_30 (by decide) (fun hc => ?_) (fun hc => ?_)
      · have hm := ifp hc hm
        cases sm hm
        exact K _ _ _ X (lv_sub hl [0, 1, 2, 3, 4] rfl)
      · have hm := ifn hc hm
        refine lv_aload_n hx hb dX3_crossingsBehind_33 rfl (lv_at hl 0 rfl) ?_
        refine lv_iload_n hx hb dX3_crossingsBehind_34 rfl (lv_at hl 2 rfl) ?_
        refine lv_iload_n hx hb dX3_crossingsBehind_35 rfl (lv_at hl 1 rfl) ?_
        refine lv_iload hx hb dX3_crossingsBehind_36 (lv_at hl 4 rfl) ?_
        refine lv_aload_n hx hb dX3_crossingsBehind_38 rfl (lv_at hl 0 rfl) ?_
        refine lv_iload hx hb dX3_crossingsBehind_39 (lv_at hl 4 rfl) ?_
        obtain ⟨r12, hcl, hm⟩ := bnd hm
        refine kVW C X (kX3_keptBehind l g a x5 w6 r12 hcl) (cw_X3_crossingsBehind_X3_keptBehind_82 C) 0 (ci := 3) rfl rfl (As := [.int x5]) rfl hl (rest := [.int x5, .int c2, .int c3, .ref (a 0)]) rfl (Nat.le_of_ble_eq_true rfl) (st2 := [.int r12, .int x5, .int c2, .int c3, .ref (a 0)]) rfl dX3_crossingsBehind_41 ⟨Nat.le_of_ble_eq_true rfl, Nat.le_of_ble_eq_true rfl⟩ (fun H locs X => ?_)
        clear hcl
        obtain ⟨r13, hcl, hm⟩ := bnd hm
        refine kVW C X (kX3_cross l g a c3 c2 x5 r12 w6 r13 hcl) (cw_X3_crossingsBehind_X3_cross_108 C) 0 (ci := 3) rfl rfl (As := [.int c3, .int c2, .int x5, .int r12]) rfl hl (rest := []) rfl (Nat.le_of_ble_eq_true rfl) (st2 := [.int r13]) rfl dX3_crossingsBehind_44 ⟨Nat.le_of_ble_eq_true rfl, Nat.le_of_ble_eq_true rfl⟩ (fun H locs X => ?_)
        clear hcl
        refine lv_if_eq (tgt := 53) hx hb dX3_crossingsBehind_47 (by decide) (fun hc => ?_) (fun hc => ?_)
        · have hm := ifp hc hm
          cases sm hm
          exact K _ _ _ X (lv_sub hl [0, 1, 2, 3, 4] rfl)
        · have hm := ifn hc hm
          refine lv_iinc (v := x4 + 1) (lv' := [(3, .int (x4 + 1)), (0, .ref (a 0)), (1, .int c2), (2, .int c3), (4, .int x5)]) hx hb dX3_crossingsBehind_50 hl (k := 3) rfl rfl (by decide) rfl (fun ls hl => ?_)
          cases sm hm
          exact K _ _ _ X (lv_sub hl [1, 2, 3, 0, 4] rfl)
noncomputable def fX3_crossingsBehind (p1 : Int32) (u : SS) : Option (Int32) := (fX3_keptBefore p1 u).bind fun r1 => (lX3_crossingsBehind_13 p1 r1 u 0 (p1 + 1)).bind fun y14 => some y14
set_option maxRecDepth 100000 in
set_option maxHeartbeats 4000000 in
theorem kX3_crossingsBehind (l : Launch) (g : kG) (a : Nat → Nat) (p1 : Int32) (u : SS) (o1 : Int32) (hm : fX3_crossingsBehind p1 u = some o1) : KM l yX3_crossingsBehind wsX3_crossingsBehind rX3_crossingsBehind g [.ref (a 0), .int p1] (wS g a u) (some (.int o1)) (wS g a u) 0 0 := by
  refine KM.of (nL := 5) (by decide) rfl (Nat.le_of_ble_eq_true rfl) ?_
  intro p e s m args below meth c A ls C X hl
  have C : CT g p s m args meth c RX3 cX3_crossingsBehind 5 (some .int) wsX3_crossingsBehind A := C
  have hx := C.1
  have hb := C.2.1
  have hl : lv_has ls 5 [(0, .ref (a 0)), (1, .int p1)] := hl
  rw [fX3_crossingsBehind] at hm
  refine lv_aload_n hx hb dX3_crossingsBehind_0 rfl (lv_at hl 0 rfl) ?_
  refine lv_iload_n hx hb dX3_crossingsBehind_1 rfl (lv_at hl 1 rfl) ?_
  obtain ⟨r1, hcl, hm⟩ := bnd hm
  refine kVW C X (kX3_keptBefore l g a p1 u r1 hcl) (cw_X3_crossingsBehind_X3_keptBefore_79 C) 0 (ci := 3) rfl rfl (As := [.int p1]) rfl hl (rest := []) rfl (Nat.le_of_ble_eq_true rfl) (st2 := [.int r1]) rfl dX3_crossingsBehind_2 ⟨Nat.le_of_ble_eq_true rfl, Nat.le_of_ble_eq_true rfl⟩ (fun H locs X => ?_)
  clear hcl
  refine lv_istore_n (lv' := [(2, .int r1), (0, .ref (a 0)), (1, .int p1)]) hx hb dX3_crossingsBehind_5 rfl hl (by decide) rfl (fun ls hl => ?_)
  refine lv_iconst (v := 0) hx hb dX3_crossingsBehind_6 (by decide) ?_
  refine lv_istore_n (lv' := [(3, .int 0), (2, .int r1), (0, .ref (a 0)), (1, .int p1)]) hx hb dX3_crossingsBehind_7 rfl hl (by decide) rfl (fun ls hl => ?_)
  refine lv_iload_n hx hb dX3_crossingsBehind_8 rfl (lv_at hl 3 rfl) ?_
  refine lv_iconst (v := 1) hx hb dX3_crossingsBehind_9 (by decide) ?_
  refine lv_iadd hx hb dX3_crossingsBehind_10 ?_
  refine lv_istore (lv' := [(4, .int (p1 + 1)), (3, .int 0), (2, .int r1), (0, .ref (a 0)), (1, .int p1)]) hx hb dX3_crossingsBehind_11 hl (by decide) rfl (fun ls hl => ?_)
  obtain ⟨y14, hL, hm⟩ := bnd hm
  obtain ⟨nn, hn⟩ := lp_run hL
  refine tX3_crossingsBehind_13 a C p1 r1 u y14 (fun H locs ls X hl => ?_) nn _ _ hn _ _ _ X (lv_sub hl [3, 4, 2, 1, 0] rfl)
  clear hL hn
  refine lv_iload_n hx hb dX3_crossingsBehind_59 rfl (lv_at hl 0 rfl) ?_
  cases sm hm
  exact kiret C X dX3_crossingsBehind_60
-- X3 BrushStrokes$Stroke.countCrossings()I
abbrev rX3_countCrossings : Room := { frames := 5, cells := 0, slots := 0, locals := 121 }
theorem fl_X3_countCrossings_15 : (Cond.fieldLink RX3 15 "BrushStrokes$Stroke" "size" "I") ∈ wsX3_countCrossings := by decide +kernel
theorem in_X3_countCrossings_X3 : ∀ w ∈ u_ws RX3 TX3 3, w ∈ wsX3_countCrossings := by decide +kernel
theorem cw_X3_countCrossings_X3_isKept_52 {p : Program} {s : State} {m : MethodId} {args : Array Value} {meth : Method} {c : Code} {g : kG} {A : Nat → Prop} (C : CT g p s m args meth c RX3 cX3_countCrossings 3 (some .int) wsX3_countCrossings A) : CallW rX3_countCrossings s args RX3 RX3 52 yX3_isKept cX3_isKept 2 (some .boolean) wsX3_isKept rX3_isKept 0 0 1 := cwV 1 C.2.2.2.2.2.1 gX3_countCrossings_X3_isKept rfl rfl rfl (by decide +kernel) ⟨Nat.le_of_ble_eq_true rfl, Nat.le_of_ble_eq_true rfl⟩
theorem cw_X3_countCrossings_X3_crossingsBehind_105 {p : Program} {s : State} {m : MethodId} {args : Array Value} {meth : Method} {c : Code} {g : kG} {A : Nat → Prop} (C : CT g p s m args meth c RX3 cX3_countCrossings 3 (some .int) wsX3_countCrossings A) : CallW rX3_countCrossings s args RX3 RX3 105 yX3_crossingsBehind cX3_crossingsBehind 5 (some .int) wsX3_crossingsBehind rX3_crossingsBehind 0 0 1 := cwV 1 C.2.2.2.2.2.1 gX3_countCrossings_X3_crossingsBehind rfl rfl rfl (by decide +kernel) ⟨Nat.le_of_ble_eq_true rfl, Nat.le_of_ble_eq_true rfl⟩
noncomputable def bX3_countCrossings_4 (w3 : SS) : Int32 × Int32 → Option ((Int32 × Int32) ⊕ (Int32))
  | (x1, x2) => if (S_size w3) ≤ x2 then (some (.inr x1)) else ((fX3_isKept x2 w3).bind fun r5 => (if r5 = 0 then (some x1) else ((fX3_crossingsBehind x2 w3).bind fun r8 => some (x1 + r8))).bind fun v7 => some (.inl (v7, x2 + 1)))
noncomputable def lX3_countCrossings_4 (w3 : SS) (x1 : Int32) (x2 : Int32) : Option (Int32) := lp (bX3_countCrossings_4 w3) (x1, x2)
theorem lX3_countCrossings_4_eq (w3 : SS) (x1 : Int32) (x2 : Int32) : lX3_countCrossings_4 w3 x1 x2 = (if (S_size w3) ≤ x2 then (some (.inr x1)) else ((fX3_isKept x2 w3).bind fun r5 => (if r5 = 0 then (some x1) else ((fX3_crossingsBehind x2 w3).bind fun r8 => some (x1 + r8))).bind fun v7 => some (.inl (v7, x2 + 1)))).bind fun r => Sum.elim (fun z => lX3_countCrossings_4 w3 z.1 z.2) (fun r => some r) r := lp_eq (bX3_countCrossings_4 w3) (x1, x2)
set_option maxRecDepth 100000 in
set_option maxHeartbeats 4000000 in
theorem tX3_countCrossings_4 {p : Program} {l : Launch} {e : Env} {s : State} {m : MethodId} {args : Array Value} {below : List Frame} {meth : Method} {c : Code} {g : kG} {A : Nat → Prop} {Q : State → Prop} (a : Nat → Nat) (C : CT g p s m args meth c RX3 cX3_countCrossings 3 (some .int) wsX3_countCrossings A) (w3 : SS) (y4 : Int32) (kk : ∀ (H : Heap) (locs : List Loc) (ls : Array Slot), ST g A s H locs (wS g a w3) → lv_has ls 3 [(1, .int y4)] → W p l e rX3_countCrossings s m args below meth c H locs 0 0 Q (F0 m 34 ls [])) : ∀ (n : Nat) (x1 : Int32) (x2 : Int32), whl (bX3_countCrossings_4 w3) n (x1, x2) = some y4 → ∀ (H : Heap) (locs : List Loc) (ls : Array Slot), ST g A s H locs (wS g a w3) → lv_has ls 3 [(0, .ref (a 0)), (1, .int x1), (2, .int x2)] → W p l e rX3_countCrossings s m args below meth c H locs 0 0 Q (F0 m 4 ls []) := by
  have hx := C.1
  have hb := C.2.1
  have hinX3 := in_X3_countCrossings_X3
  have hf15 := C.2.2.2.2.2.1 _ fl_X3_countCrossings_15
  intro n
  induction n with
  | zero =>
    intro x1 x2 hm
    cases hm
  | succ n ih =>
    intro x1 x2 hm H locs ls X hl
    rw [whl] at hm
    obtain ⟨q, hq, hm2⟩ := bnd hm
    clear hm
    have hm := hq
    clear hq
    rw [bX3_countCrossings_4] at hm
    refine lv_iload_n hx hb dX3_countCrossings_4 rfl (lv_at hl 2 rfl) ?_
    refine lv_aload_n hx hb dX3_countCrossings_5 rfl (lv_at hl 0 rfl) ?_
    refine kget C X 0 (ci := 3) rfl rfl hinX3 1 (by decide) hf15 (v := .int (S_size w3)) rfl dX3_countCrossings_6 ?_
    refine lv_icmp_ge (tgt := 34) hx hb dX3_countCrossings_9 (by decide) (fun hc => ?_) (fun hc => ?_)
    · have hm := ifp hc hm
      cases sm hm
      cases sm hm2
      exact kk _ _ _ X (lv_sub hl [1] rfl)
    · have hm := ifn hc hm
      refine lv_aload_n hx hb dX3_countCrossings_12 rfl (lv_at hl 0 rfl) ?_
      refine lv_iload_n hx hb dX3_countCrossings_13 rfl (lv_at hl 2 rfl) ?_
      obtain ⟨r5, hcl, hm⟩ := bnd hm
      refine kVW C X (kX3_isKept l g a x2 w3 r5 hcl) (cw_X3_countCrossings_X3_isKept_52 C) 0 (ci := 3) rfl rfl (As := [.int x2]) rfl hl (rest := []) rfl (Nat.le_of_ble_eq_true rfl) (st2 := [.int r5]) rfl dX3_countCrossings_14 ⟨Nat.le_of_ble_eq_true rfl, Nat.le_of_ble_eq_true rfl⟩ (fun H locs X => ?_)
      clear hcl
      obtain ⟨v7, hE, hm⟩ := bnd hm
      have K : ∀ (H : Heap) (locs : List Loc) (ls : Array Slot), ST g A s H locs (wS g a w3) → lv_has ls 3 [(0, .ref (a 0)), (1, .int v7), (2, .int x2)] → W p l e rX3_countCrossings s m args below meth c H locs 0 0 Q (F0 m 28 ls []) := by
        intro H locs ls X hl
        clear hE
        refine lv_iinc (v := x2 + 1) (lv' := [(2, .int (x2 + 1)), (0, .ref (a 0)), (1, .int v7)]) hx hb dX3_countCrossings_28 hl (k := 2) rfl rfl (by decide) rfl (fun ls hl => ?_)
        refine lv_goto (tgt := 4) hx hb dX3_countCrossings_31 (by decide) ?_
        cases sm hm
        exact ih _ _ hm2 _ _ _ X (lv_sub hl [1, 2, 0] rfl)
      clear hm
      have hm := hE
      clear hE
      refine lv_if_eq (tgt := 28) hx hb dX3_countCrossings_17 (by decide) (fun hc => ?_) (fun hc => ?_)
      · have hm := ifp hc hm
        cases sm hm
        exact K _ _ _ X (lv_sub hl [0, 1, 2] rfl)
      · have hm := ifn hc hm
        refine lv_iload_n hx hb dX3_countCrossings_20 rfl (lv_at hl 1 rfl) ?_
        refine lv_aload_n hx hb dX3_countCrossings_21 rfl (lv_at hl 0 rfl) ?_
        refine lv_iload_n hx hb dX3_countCrossings_22 rfl (lv_at hl 2 rfl) ?_
        obtain ⟨r8, hcl, hm⟩ := bnd hm
        refine kVW C X (kX3_crossingsBehind l g a x2 w3 r8 hcl) (cw_X3_countCrossings_X3_crossingsBehind_105 C) 0 (ci := 3) rfl rfl (As := [.int x2]) rfl hl (rest := [.int x1]) rfl (Nat.le_of_ble_eq_true rfl) (st2 := [.int r8, .int x1]) rfl dX3_countCrossings_23 ⟨Nat.le_of_ble_eq_true rfl, Nat.le_of_ble_eq_true rfl⟩ (fun H locs X => ?_)
        clear hcl
        refine lv_iadd hx hb dX3_countCrossings_26 ?_
        refine lv_istore_n (lv' := [(1, .int (x1 + r8)), (0, .ref (a 0)), (2, .int x2)]) hx hb dX3_countCrossings_27 rfl hl (by decide) rfl (fun ls hl => ?_)
        cases sm hm
        exact K _ _ _ X (lv_sub hl [1, 0, 2] rfl)
noncomputable def fX3_countCrossings (u : SS) : Option (Int32) := (lX3_countCrossings_4 u 0 1).bind fun y9 => some y9
set_option maxRecDepth 100000 in
set_option maxHeartbeats 4000000 in
theorem kX3_countCrossings (l : Launch) (g : kG) (a : Nat → Nat) (u : SS) (o1 : Int32) (hm : fX3_countCrossings u = some o1) : KM l yX3_countCrossings wsX3_countCrossings rX3_countCrossings g [.ref (a 0)] (wS g a u) (some (.int o1)) (wS g a u) 0 0 := by
  refine KM.of (nL := 3) (by decide) rfl (Nat.le_of_ble_eq_true rfl) ?_
  intro p e s m args below meth c A ls C X hl
  have C : CT g p s m args meth c RX3 cX3_countCrossings 3 (some .int) wsX3_countCrossings A := C
  have hx := C.1
  have hb := C.2.1
  have hl : lv_has ls 3 [(0, .ref (a 0))] := hl
  rw [fX3_countCrossings] at hm
  refine lv_iconst (v := 0) hx hb dX3_countCrossings_0 (by decide) ?_
  refine lv_istore_n (lv' := [(1, .int 0), (0, .ref (a 0))]) hx hb dX3_countCrossings_1 rfl hl (by decide) rfl (fun ls hl => ?_)
  refine lv_iconst (v := 1) hx hb dX3_countCrossings_2 (by decide) ?_
  refine lv_istore_n (lv' := [(2, .int 1), (1, .int 0), (0, .ref (a 0))]) hx hb dX3_countCrossings_3 rfl hl (by decide) rfl (fun ls hl => ?_)
  obtain ⟨y9, hL, hm⟩ := bnd hm
  obtain ⟨nn, hn⟩ := lp_run hL
  refine tX3_countCrossings_4 a C u y9 (fun H locs ls X hl => ?_) nn _ _ hn _ _ _ X (lv_sub hl [2, 1, 0] rfl)
  clear hL hn
  refine lv_iload_n hx hb dX3_countCrossings_34 rfl (lv_at hl 0 rfl) ?_
  cases sm hm
  exact kiret C X dX3_countCrossings_35
-- X3 BrushStrokes$Stroke.spanX()I
abbrev rX3_spanX : Room := { frames := 1, cells := 0, slots := 0, locals := 22 }
theorem fl_X3_spanX_15 : (Cond.fieldLink RX3 15 "BrushStrokes$Stroke" "size" "I") ∈ wsX3_spanX := by decide +kernel
theorem in_X3_spanX_X3 : ∀ w ∈ u_ws RX3 TX3 3, w ∈ wsX3_spanX := by decide +kernel
theorem ml_X3_spanX_117 : (Cond.methodLink RX3 117 Lib.Math.min.name) ∈ wsX3_spanX ∧ (Cond.static Lib.Math.min.name) ∈ wsX3_spanX ∧ (Cond.initialized "java/lang/Math") ∈ wsX3_spanX ∧ (Cond.code Lib.Math.min.name Lib.Math.min.code 2 (some .int)) ∈ wsX3_spanX := by decide +kernel
theorem ml_X3_spanX_121 : (Cond.methodLink RX3 121 Lib.Math.max.name) ∈ wsX3_spanX ∧ (Cond.static Lib.Math.max.name) ∈ wsX3_spanX ∧ (Cond.initialized "java/lang/Math") ∈ wsX3_spanX ∧ (Cond.code Lib.Math.max.name Lib.Math.max.code 2 (some .int)) ∈ wsX3_spanX := by decide +kernel
theorem cw_X3_spanX_X3_x_43 {p : Program} {s : State} {m : MethodId} {args : Array Value} {meth : Method} {c : Code} {g : kG} {A : Nat → Prop} (C : CT g p s m args meth c RX3 cX3_spanX 4 (some .int) wsX3_spanX A) : CallW rX3_spanX s args RX3 RX3 43 yX3_x cX3_x 3 (some .int) wsX3_x rX3_x 0 0 1 := cwV 1 C.2.2.2.2.2.1 gX3_spanX_X3_x rfl rfl rfl (by decide +kernel) ⟨Nat.le_of_ble_eq_true rfl, Nat.le_of_ble_eq_true rfl⟩
noncomputable def bX3_spanX_14 (w6 : SS) : Int32 × Int32 × Int32 → Option ((Int32 × Int32 × Int32) ⊕ (Int32 × Int32))
  | (x3, x4, x5) => if (S_size w6) ≤ x5 then (some (.inr (x3, x4))) else ((fX3_x x5 w6).bind fun r9 => (fX3_x x5 w6).bind fun r10 => some (.inl ((if r9 < x3 then r9 else x3), (if x4 < r10 then r10 else x4), x5 + 1)))
noncomputable def lX3_spanX_14 (w6 : SS) (x3 : Int32) (x4 : Int32) (x5 : Int32) : Option (Int32 × Int32) := lp (bX3_spanX_14 w6) (x3, x4, x5)
theorem lX3_spanX_14_eq (w6 : SS) (x3 : Int32) (x4 : Int32) (x5 : Int32) : lX3_spanX_14 w6 x3 x4 x5 = (if (S_size w6) ≤ x5 then (some (.inr (x3, x4))) else ((fX3_x x5 w6).bind fun r9 => (fX3_x x5 w6).bind fun r10 => some (.inl ((if r9 < x3 then r9 else x3), (if x4 < r10 then r10 else x4), x5 + 1)))).bind fun r => Sum.elim (fun z => lX3_spanX_14 w6 z.1 z.2.1 z.2.2) (fun r => some r) r := lp_eq (bX3_spanX_14 w6) (x3, x4, x5)
set_option maxRecDepth 100000 in
set_option maxHeartbeats 4000000 in
theorem tX3_spanX_14 {p : Program} {l : Launch} {e : Env} {s : State} {m : MethodId} {args : Array Value} {below : List Frame} {meth : Method} {c : Code} {g : kG} {A : Nat → Prop} {Q : State → Prop} (a : Nat → Nat) (C : CT g p s m args meth c RX3 cX3_spanX 4 (some .int) wsX3_spanX A) (w6 : SS) (y7 : Int32) (y8 : Int32) (kk : ∀ (H : Heap) (locs : List Loc) (ls : Array Slot), ST g A s H locs (wS g a w6) → lv_has ls 4 [(1, .int y7), (2, .int y8)] → W p l e rX3_spanX s m args below meth c H locs 0 0 Q (F0 m 48 ls [])) : ∀ (n : Nat) (x3 : Int32) (x4 : Int32) (x5 : Int32), whl (bX3_spanX_14 w6) n (x3, x4, x5) = some (y7, y8) → ∀ (H : Heap) (locs : List Loc) (ls : Array Slot), ST g A s H locs (wS g a w6) → lv_has ls 4 [(0, .ref (a 0)), (1, .int x3), (2, .int x4), (3, .int x5)] → W p l e rX3_spanX s m args below meth c H locs 0 0 Q (F0 m 14 ls []) := by
  have hx := C.1
  have hb := C.2.1
  have hinX3 := in_X3_spanX_X3
  have hf15 := C.2.2.2.2.2.1 _ fl_X3_spanX_15
  intro n
  induction n with
  | zero =>
    intro x3 x4 x5 hm
    cases hm
  | succ n ih =>
    intro x3 x4 x5 hm H locs ls X hl
    rw [whl] at hm
    obtain ⟨q, hq, hm2⟩ := bnd hm
    clear hm
    have hm := hq
    clear hq
    rw [bX3_spanX_14] at hm
    refine lv_iload_n hx hb dX3_spanX_14 rfl (lv_at hl 3 rfl) ?_
    refine lv_aload_n hx hb dX3_spanX_15 rfl (lv_at hl 0 rfl) ?_
    refine kget C X 0 (ci := 3) rfl rfl hinX3 1 (by decide) hf15 (v := .int (S_size w6)) rfl dX3_spanX_16 ?_
    refine lv_icmp_ge (tgt := 48) hx hb dX3_spanX_19 (by decide) (fun hc => ?_) (fun hc => ?_)
    · have hm := ifp hc hm
      cases sm hm
      cases sm hm2
      exact kk _ _ _ X (lv_sub hl [1, 2] rfl)
    · have hm := ifn hc hm
      refine lv_iload_n hx hb dX3_spanX_22 rfl (lv_at hl 1 rfl) ?_
      refine lv_aload_n hx hb dX3_spanX_23 rfl (lv_at hl 0 rfl) ?_
      refine lv_iload_n hx hb dX3_spanX_24 rfl (lv_at hl 3 rfl) ?_
      obtain ⟨r9, hcl, hm⟩ := bnd hm
      refine kVW C X (kX3_x l g a x5 w6 r9 hcl) (cw_X3_spanX_X3_x_43 C) 0 (ci := 3) rfl rfl (As := [.int x5]) rfl hl (rest := [.int x3]) rfl (Nat.le_of_ble_eq_true rfl) (st2 := [.int r9, .int x3]) rfl dX3_spanX_25 ⟨Nat.le_of_ble_eq_true rfl, Nat.le_of_ble_eq_true rfl⟩ (fun H locs X => ?_)
      clear hcl
      refine va_mmin hx hb (C.2.2.2.1.trans hl.1.symm) C.2.2.2.2.1 (C.2.2.2.2.2.1 _ ml_X3_spanX_117.1) (C.2.2.2.2.2.1 _ ml_X3_spanX_117.2.1) (C.2.2.2.2.2.1 _ ml_X3_spanX_117.2.2.1) (C.2.2.2.2.2.1 _ ml_X3_spanX_117.2.2.2) (Nat.le_of_ble_eq_true rfl) (Nat.le_of_ble_eq_true rfl) (Nat.le_of_ble_eq_true rfl) (Nat.le_of_ble_eq_true rfl) dX3_spanX_28 ?_
      refine lv_istore_n (lv' := [(1, .int (if r9 < x3 then r9 else x3)), (0, .ref (a 0)), (2, .int x4), (3, .int x5)]) hx hb dX3_spanX_31 rfl hl (by decide) rfl (fun ls hl => ?_)
      refine lv_iload_n hx hb dX3_spanX_32 rfl (lv_at hl 2 rfl) ?_
      refine lv_aload_n hx hb dX3_spanX_33 rfl (lv_at hl 1 rfl) ?_
      refine lv_iload_n hx hb dX3_spanX_34 rfl (lv_at hl 3 rfl) ?_
      obtain ⟨r10, hcl, hm⟩ := bnd hm
      refine kVW C X (kX3_x l g a x5 w6 r10 hcl) (cw_X3_spanX_X3_x_43 C) 0 (ci := 3) rfl rfl (As := [.int x5]) rfl hl (rest := [.int x4]) rfl (Nat.le_of_ble_eq_true rfl) (st2 := [.int r10, .int x4]) rfl dX3_spanX_35 ⟨Nat.le_of_ble_eq_true rfl, Nat.le_of_ble_eq_true rfl⟩ (fun H locs X => ?_)
      clear hcl
      refine va_mmax hx hb (C.2.2.2.1.trans hl.1.symm) C.2.2.2.2.1 (C.2.2.2.2.2.1 _ ml_X3_spanX_121.1) (C.2.2.2.2.2.1 _ ml_X3_spanX_121.2.1) (C.2.2.2.2.2.1 _ ml_X3_spanX_121.2.2.1) (C.2.2.2.2.2.1 _ ml_X3_spanX_121.2.2.2) (Nat.le_of_ble_eq_true rfl) (Nat.le_of_ble_eq_true rfl) (Nat.le_of_ble_eq_true rfl) (Nat.le_of_ble_eq_true rfl) dX3_spanX_38 ?_
      refine lv_istore_n (lv' := [(2, .int (if x4 < r10 then r10 else x4)), (1, .int (if r9 < x3 then r9 else x3)), (0, .ref (a 0)), (3, .int x5)]) hx hb dX3_spanX_41 rfl hl (by decide) rfl (fun ls hl => ?_)
      refine lv_iinc (v := x5 + 1) (lv' := [(3, .int (x5 + 1)), (2, .int (if x4 < r10 then r10 else x4)), (1, .int (if r9 < x3 then r9 else x3)), (0, .ref (a 0))]) hx hb dX3_spanX_42 hl (k := 3) rfl rfl (by decide) rfl (fun ls hl => ?_)
      refine lv_goto (tgt := 14) hx hb dX3_spanX_45 (by decide) ?_
      cases sm hm
      exact ih _ _ _ hm2 _ _ _ X (lv_sub hl [3, 2, 1, 0] rfl)
noncomputable def fX3_spanX (u : SS) : Option (Int32) := (fX3_x 0 u).bind fun r1 => (fX3_x 0 u).bind fun r2 => (lX3_spanX_14 u r1 r2 1).bind fun (y11, y12) => some (y12 - y11)
set_option maxRecDepth 100000 in
set_option maxHeartbeats 4000000 in
theorem kX3_spanX (l : Launch) (g : kG) (a : Nat → Nat) (u : SS) (o1 : Int32) (hm : fX3_spanX u = some o1) : KM l yX3_spanX wsX3_spanX rX3_spanX g [.ref (a 0)] (wS g a u) (some (.int o1)) (wS g a u) 0 0 := by
  refine KM.of (nL := 4) (by decide) rfl (Nat.le_of_ble_eq_true rfl) ?_
  intro p e s m args below meth c A ls C X hl
  have C : CT g p s m args meth c RX3 cX3_spanX 4 (some .int) wsX3_spanX A := C
  have hx := C.1
  have hb := C.2.1
  have hl : lv_has ls 4 [(0, .ref (a 0))] := hl
  rw [fX3_spanX] at hm
  refine lv_aload_n hx hb dX3_spanX_0 rfl (lv_at hl 0 rfl) ?_
  refine lv_iconst (v := 0) hx hb dX3_spanX_1 (by decide) ?_
  obtain ⟨r1, hcl, hm⟩ := bnd hm
  refine kVW C X (kX3_x l g a 0 u r1 hcl) (cw_X3_spanX_X3_x_43 C) 0 (ci := 3) rfl rfl (As := [.int 0]) rfl hl (rest := []) rfl (Nat.le_of_ble_eq_true rfl) (st2 := [.int r1]) rfl dX3_spanX_2 ⟨Nat.le_of_ble_eq_true rfl, Nat.le_of_ble_eq_true rfl⟩ (fun H locs X => ?_)
  clear hcl
  refine lv_istore_n (lv' := [(1, .int r1), (0, .ref (a 0))]) hx hb dX3_spanX_5 rfl hl (by decide) rfl (fun ls hl => ?_)
  refine lv_aload_n hx hb dX3_spanX_6 rfl (lv_at hl 1 rfl) ?_
  refine lv_iconst (v := 0) hx hb dX3_spanX_7 (by decide) ?_
  obtain ⟨r2, hcl, hm⟩ := bnd hm
  refine kVW C X (kX3_x l g a 0 u r2 hcl) (cw_X3_spanX_X3_x_43 C) 0 (ci := 3) rfl rfl (As := [.int 0]) rfl hl (rest := []) rfl (Nat.le_of_ble_eq_true rfl) (st2 := [.int r2]) rfl dX3_spanX_8 ⟨Nat.le_of_ble_eq_true rfl, Nat.le_of_ble_eq_true rfl⟩ (fun H locs X => ?_)
  clear hcl
  refine lv_istore_n (lv' := [(2, .int r2), (1, .int r1), (0, .ref (a 0))]) hx hb dX3_spanX_11 rfl hl (by decide) rfl (fun ls hl => ?_)
  refine lv_iconst (v := 1) hx hb dX3_spanX_12 (by decide) ?_
  refine lv_istore_n (lv' := [(3, .int 1), (2, .int r2), (1, .int r1), (0, .ref (a 0))]) hx hb dX3_spanX_13 rfl hl (by decide) rfl (fun ls hl => ?_)
  obtain ⟨⟨y11, y12⟩, hL, hm⟩ := bnd hm
  obtain ⟨nn, hn⟩ := lp_run hL
  refine tX3_spanX_14 a C u y11 y12 (fun H locs ls X hl => ?_) nn _ _ _ hn _ _ _ X (lv_sub hl [3, 2, 1, 0] rfl)
  clear hL hn
  refine lv_iload_n hx hb dX3_spanX_48 rfl (lv_at hl 1 rfl) ?_
  refine lv_iload_n hx hb dX3_spanX_49 rfl (lv_at hl 0 rfl) ?_
  refine lv_isub hx hb dX3_spanX_50 ?_
  cases sm hm
  exact kiret C X dX3_spanX_51
-- X3 BrushStrokes$Stroke.spanY()I
abbrev rX3_spanY : Room := { frames := 1, cells := 0, slots := 0, locals := 22 }
theorem fl_X3_spanY_15 : (Cond.fieldLink RX3 15 "BrushStrokes$Stroke" "size" "I") ∈ wsX3_spanY := by decide +kernel
theorem in_X3_spanY_X3 : ∀ w ∈ u_ws RX3 TX3 3, w ∈ wsX3_spanY := by decide +kernel
theorem ml_X3_spanY_117 : (Cond.methodLink RX3 117 Lib.Math.min.name) ∈ wsX3_spanY ∧ (Cond.static Lib.Math.min.name) ∈ wsX3_spanY ∧ (Cond.initialized "java/lang/Math") ∈ wsX3_spanY ∧ (Cond.code Lib.Math.min.name Lib.Math.min.code 2 (some .int)) ∈ wsX3_spanY := by decide +kernel
theorem ml_X3_spanY_121 : (Cond.methodLink RX3 121 Lib.Math.max.name) ∈ wsX3_spanY ∧ (Cond.static Lib.Math.max.name) ∈ wsX3_spanY ∧ (Cond.initialized "java/lang/Math") ∈ wsX3_spanY ∧ (Cond.code Lib.Math.max.name Lib.Math.max.code 2 (some .int)) ∈ wsX3_spanY := by decide +kernel
theorem cw_X3_spanY_X3_y_46 {p : Program} {s : State} {m : MethodId} {args : Array Value} {meth : Method} {c : Code} {g : kG} {A : Nat → Prop} (C : CT g p s m args meth c RX3 cX3_spanY 4 (some .int) wsX3_spanY A) : CallW rX3_spanY s args RX3 RX3 46 yX3_y cX3_y 3 (some .int) wsX3_y rX3_y 0 0 1 := cwV 1 C.2.2.2.2.2.1 gX3_spanY_X3_y rfl rfl rfl (by decide +kernel) ⟨Nat.le_of_ble_eq_true rfl, Nat.le_of_ble_eq_true rfl⟩
noncomputable def bX3_spanY_14 (w6 : SS) : Int32 × Int32 × Int32 → Option ((Int32 × Int32 × Int32) ⊕ (Int32 × Int32))
  | (x3, x4, x5) => if (S_size w6) ≤ x5 then (some (.inr (x3, x4))) else ((fX3_y x5 w6).bind fun r9 => (fX3_y x5 w6).bind fun r10 => some (.inl ((if r9 < x3 then r9 else x3), (if x4 < r10 then r10 else x4), x5 + 1)))
noncomputable def lX3_spanY_14 (w6 : SS) (x3 : Int32) (x4 : Int32) (x5 : Int32) : Option (Int32 × Int32) := lp (bX3_spanY_14 w6) (x3, x4, x5)
theorem lX3_spanY_14_eq (w6 : SS) (x3 : Int32) (x4 : Int32) (x5 : Int32) : lX3_spanY_14 w6 x3 x4 x5 = (if (S_size w6) ≤ x5 then (some (.inr (x3, x4))) else ((fX3_y x5 w6).bind fun r9 => (fX3_y x5 w6).bind fun r10 => some (.inl ((if r9 < x3 then r9 else x3), (if x4 < r10 then r10 else x4), x5 + 1)))).bind fun r => Sum.elim (fun z => lX3_spanY_14 w6 z.1 z.2.1 z.2.2) (fun r => some r) r := lp_eq (bX3_spanY_14 w6) (x3, x4, x5)
set_option maxRecDepth 100000 in
set_option maxHeartbeats 4000000 in
theorem tX3_spanY_14 {p : Program} {l : Launch} {e : Env} {s : State} {m : MethodId} {args : Array Value} {below : List Frame} {meth : Method} {c : Code} {g : kG} {A : Nat → Prop} {Q : State → Prop} (a : Nat → Nat) (C : CT g p s m args meth c RX3 cX3_spanY 4 (some .int) wsX3_spanY A) (w6 : SS) (y7 : Int32) (y8 : Int32) (kk : ∀ (H : Heap) (locs : List Loc) (ls : Array Slot), ST g A s H locs (wS g a w6) → lv_has ls 4 [(1, .int y7), (2, .int y8)] → W p l e rX3_spanY s m args below meth c H locs 0 0 Q (F0 m 48 ls [])) : ∀ (n : Nat) (x3 : Int32) (x4 : Int32) (x5 : Int32), whl (bX3_spanY_14 w6) n (x3, x4, x5) = some (y7, y8) → ∀ (H : Heap) (locs : List Loc) (ls : Array Slot), ST g A s H locs (wS g a w6) → lv_has ls 4 [(0, .ref (a 0)), (1, .int x3), (2, .int x4), (3, .int x5)] → W p l e rX3_spanY s m args below meth c H locs 0 0 Q (F0 m 14 ls []) := by
  have hx := C.1
  have hb := C.2.1
  have hinX3 := in_X3_spanY_X3
  have hf15 := C.2.2.2.2.2.1 _ fl_X3_spanY_15
  intro n
  induction n with
  | zero =>
    intro x3 x4 x5 hm
    cases hm
  | succ n ih =>
    intro x3 x4 x5 hm H locs ls X hl
    rw [whl] at hm
    obtain ⟨q, hq, hm2⟩ := bnd hm
    clear hm
    have hm := hq
    clear hq
    rw [bX3_spanY_14] at hm
    refine lv_iload_n hx hb dX3_spanY_14 rfl (lv_at hl 3 rfl) ?_
    refine lv_aload_n hx hb dX3_spanY_15 rfl (lv_at hl 0 rfl) ?_
    refine kget C X 0 (ci := 3) rfl rfl hinX3 1 (by decide) hf15 (v := .int (S_size w6)) rfl dX3_spanY_16 ?_
    refine lv_icmp_ge (tgt := 48) hx hb dX3_spanY_19 (by decide) (fun hc => ?_) (fun hc => ?_)
    · have hm := ifp hc hm
      cases sm hm
      cases sm hm2
      exact kk _ _ _ X (lv_sub hl [1, 2] rfl)
    · have hm := ifn hc hm
      refine lv_iload_n hx hb dX3_spanY_22 rfl (lv_at hl 1 rfl) ?_
      refine lv_aload_n hx hb dX3_spanY_23 rfl (lv_at hl 0 rfl) ?_
      refine lv_iload_n hx hb dX3_spanY_24 rfl (lv_at hl 3 rfl) ?_
      obtain ⟨r9, hcl, hm⟩ := bnd hm
      refine kVW C X (kX3_y l g a x5 w6 r9 hcl) (cw_X3_spanY_X3_y_46 C) 0 (ci := 3) rfl rfl (As := [.int x5]) rfl hl (rest := [.int x3]) rfl (Nat.le_of_ble_eq_true rfl) (st2 := [.int r9, .int x3]) rfl dX3_spanY_25 ⟨Nat.le_of_ble_eq_true rfl, Nat.le_of_ble_eq_true rfl⟩ (fun H locs X => ?_)
      clear hcl
      refine va_mmin hx hb (C.2.2.2.1.trans hl.1.symm) C.2.2.2.2.1 (C.2.2.2.2.2.1 _ ml_X3_spanY_117.1) (C.2.2.2.2.2.1 _ ml_X3_spanY_117.2.1) (C.2.2.2.2.2.1 _ ml_X3_spanY_117.2.2.1) (C.2.2.2.2.2.1 _ ml_X3_spanY_117.2.2.2) (Nat.le_of_ble_eq_true rfl) (Nat.le_of_ble_eq_true rfl) (Nat.le_of_ble_eq_true rfl) (Nat.le_of_ble_eq_true rfl) dX3_spanY_28 ?_
      refine lv_istore_n (lv' := [(1, .int (if r9 < x3 then r9 else x3)), (0, .ref (a 0)), (2, .int x4), (3, .int x5)]) hx hb dX3_spanY_31 rfl hl (by decide) rfl (fun ls hl => ?_)
      refine lv_iload_n hx hb dX3_spanY_32 rfl (lv_at hl 2 rfl) ?_
      refine lv_aload_n hx hb dX3_spanY_33 rfl (lv_at hl 1 rfl) ?_
      refine lv_iload_n hx hb dX3_spanY_34 rfl (lv_at hl 3 rfl) ?_
      obtain ⟨r10, hcl, hm⟩ := bnd hm
      refine kVW C X (kX3_y l g a x5 w6 r10 hcl) (cw_X3_spanY_X3_y_46 C) 0 (ci := 3) rfl rfl (As := [.int x5]) rfl hl (rest := [.int x4]) rfl (Nat.le_of_ble_eq_true rfl) (st2 := [.int r10, .int x4]) rfl dX3_spanY_35 ⟨Nat.le_of_ble_eq_true rfl, Nat.le_of_ble_eq_true rfl⟩ (fun H locs X => ?_)
      clear hcl
      refine va_mmax hx hb (C.2.2.2.1.trans hl.1.symm) C.2.2.2.2.1 (C.2.2.2.2.2.1 _ ml_X3_spanY_121.1) (C.2.2.2.2.2.1 _ ml_X3_spanY_121.2.1) (C.2.2.2.2.2.1 _ ml_X3_spanY_121.2.2.1) (C.2.2.2.2.2.1 _ ml_X3_spanY_121.2.2.2) (Nat.le_of_ble_eq_true rfl) (Nat.le_of_ble_eq_true rfl) (Nat.le_of_ble_eq_true rfl) (Nat.le_of_ble_eq_true rfl) dX3_spanY_38 ?_
      refine lv_istore_n (lv' := [(2, .int (if x4 < r10 then r10 else x4)), (1, .int (if r9 < x3 then r9 else x3)), (0, .ref (a 0)), (3, .int x5)]) hx hb dX3_spanY_41 rfl hl (by decide) rfl (fun ls hl => ?_)
      refine lv_iinc (v := x5 + 1) (lv' := [(3, .int (x5 + 1)), (2, .int (if x4 < r10 then r10 else x4)), (1, .int (if r9 < x3 then r9 else x3)), (0, .ref (a 0))]) hx hb dX3_spanY_42 hl (k := 3) rfl rfl (by decide) rfl (fun ls hl => ?_)
      refine lv_goto (tgt := 14) hx hb dX3_spanY_45 (by decide) ?_
      cases sm hm
      exact ih _ _ _ hm2 _ _ _ X (lv_sub hl [3, 2, 1, 0] rfl)
noncomputable def fX3_spanY (u : SS) : Option (Int32) := (fX3_y 0 u).bind fun r1 => (fX3_y 0 u).bind fun r2 => (lX3_spanY_14 u r1 r2 1).bind fun (y11, y12) => some (y12 - y11)
set_option maxRecDepth 100000 in
set_option maxHeartbeats 4000000 in
theorem kX3_spanY (l : Launch) (g : kG) (a : Nat → Nat) (u : SS) (o1 : Int32) (hm : fX3_spanY u = some o1) : KM l yX3_spanY wsX3_spanY rX3_spanY g [.ref (a 0)] (wS g a u) (some (.int o1)) (wS g a u) 0 0 := by
  refine KM.of (nL := 4) (by decide) rfl (Nat.le_of_ble_eq_true rfl) ?_
  intro p e s m args below meth c A ls C X hl
  have C : CT g p s m args meth c RX3 cX3_spanY 4 (some .int) wsX3_spanY A := C
  have hx := C.1
  have hb := C.2.1
  have hl : lv_has ls 4 [(0, .ref (a 0))] := hl
  rw [fX3_spanY] at hm
  refine lv_aload_n hx hb dX3_spanY_0 rfl (lv_at hl 0 rfl) ?_
  refine lv_iconst (v := 0) hx hb dX3_spanY_1 (by decide) ?_
  obtain ⟨r1, hcl, hm⟩ := bnd hm
  refine kVW C X (kX3_y l g a 0 u r1 hcl) (cw_X3_spanY_X3_y_46 C) 0 (ci := 3) rfl rfl (As := [.int 0]) rfl hl (rest := []) rfl (Nat.le_of_ble_eq_true rfl) (st2 := [.int r1]) rfl dX3_spanY_2 ⟨Nat.le_of_ble_eq_true rfl, Nat.le_of_ble_eq_true rfl⟩ (fun H locs X => ?_)
  clear hcl
  refine lv_istore_n (lv' := [(1, .int r1), (0, .ref (a 0))]) hx hb dX3_spanY_5 rfl hl (by decide) rfl (fun ls hl => ?_)
  refine lv_aload_n hx hb dX3_spanY_6 rfl (lv_at hl 1 rfl) ?_
  refine lv_iconst (v := 0) hx hb dX3_spanY_7 (by decide) ?_
  obtain ⟨r2, hcl, hm⟩ := bnd hm
  refine kVW C X (kX3_y l g a 0 u r2 hcl) (cw_X3_spanY_X3_y_46 C) 0 (ci := 3) rfl rfl (As := [.int 0]) rfl hl (rest := []) rfl (Nat.le_of_ble_eq_true rfl) (st2 := [.int r2]) rfl dX3_spanY_8 ⟨Nat.le_of_ble_eq_true rfl, Nat.le_of_ble_eq_true rfl⟩ (fun H locs X => ?_)
  clear hcl
  refine lv_istore_n (lv' := [(2, .int r2), (1, .int r1), (0, .ref (a 0))]) hx hb dX3_spanY_11 rfl hl (by decide) rfl (fun ls hl => ?_)
  refine lv_iconst (v := 1) hx hb dX3_spanY_12 (by decide) ?_
  refine lv_istore_n (lv' := [(3, .int 1), (2, .int r2), (1, .int r1), (0, .ref (a 0))]) hx hb dX3_spanY_13 rfl hl (by decide) rfl (fun ls hl => ?_)
  obtain ⟨⟨y11, y12⟩, hL, hm⟩ := bnd hm
  obtain ⟨nn, hn⟩ := lp_run hL
  refine tX3_spanY_14 a C u y11 y12 (fun H locs ls X hl => ?_) nn _ _ _ hn _ _ _ X (lv_sub hl [3, 2, 1, 0] rfl)
  clear hL hn
  refine lv_iload_n hx hb dX3_spanY_48 rfl (lv_at hl 1 rfl) ?_
  refine lv_iload_n hx hb dX3_spanY_49 rfl (lv_at hl 0 rfl) ?_
  refine lv_isub hx hb dX3_spanY_50 ?_
  cases sm hm
  exact kiret C X dX3_spanY_51
-- X3 BrushStrokes$Stroke.squareTo(III)I
abbrev rX3_squareTo : Room := { frames := 1, cells := 0, slots := 0, locals := 22 }
theorem cw_X3_squareTo_X3_y_46 {p : Program} {s : State} {m : MethodId} {args : Array Value} {meth : Method} {c : Code} {g : kG} {A : Nat → Prop} (C : CT g p s m args meth c RX3 cX3_squareTo 6 (some .int) wsX3_squareTo A) : CallW rX3_squareTo s args RX3 RX3 46 yX3_y cX3_y 3 (some .int) wsX3_y rX3_y 0 0 1 := cwV 1 C.2.2.2.2.2.1 gX3_squareTo_X3_y rfl rfl rfl (by decide +kernel) ⟨Nat.le_of_ble_eq_true rfl, Nat.le_of_ble_eq_true rfl⟩
theorem cw_X3_squareTo_X3_x_43 {p : Program} {s : State} {m : MethodId} {args : Array Value} {meth : Method} {c : Code} {g : kG} {A : Nat → Prop} (C : CT g p s m args meth c RX3 cX3_squareTo 6 (some .int) wsX3_squareTo A) : CallW rX3_squareTo s args RX3 RX3 43 yX3_x cX3_x 3 (some .int) wsX3_x rX3_x 0 0 1 := cwV 1 C.2.2.2.2.2.1 gX3_squareTo_X3_x rfl rfl rfl (by decide +kernel) ⟨Nat.le_of_ble_eq_true rfl, Nat.le_of_ble_eq_true rfl⟩
noncomputable def fX3_squareTo (p1 : Int32) (p2 : Int32) (p3 : Int32) (u : SS) : Option (Int32) := (fX3_x p1 u).bind fun r1 => (fX3_y p1 u).bind fun r2 => some (((r1 - p2) * (r1 - p2)) + ((r2 - p3) * (r2 - p3)))
set_option maxRecDepth 100000 in
set_option maxHeartbeats 4000000 in
theorem kX3_squareTo (l : Launch) (g : kG) (a : Nat → Nat) (p1 : Int32) (p2 : Int32) (p3 : Int32) (u : SS) (o1 : Int32) (hm : fX3_squareTo p1 p2 p3 u = some o1) : KM l yX3_squareTo wsX3_squareTo rX3_squareTo g [.ref (a 0), .int p1, .int p2, .int p3] (wS g a u) (some (.int o1)) (wS g a u) 0 0 := by
  refine KM.of (nL := 6) (by decide) rfl (Nat.le_of_ble_eq_true rfl) ?_
  intro p e s m args below meth c A ls C X hl
  have C : CT g p s m args meth c RX3 cX3_squareTo 6 (some .int) wsX3_squareTo A := C
  have hx := C.1
  have hb := C.2.1
  have hl : lv_has ls 6 [(0, .ref (a 0)), (1, .int p1), (2, .int p2), (3, .int p3)] := hl
  rw [fX3_squareTo] at hm
  refine lv_aload_n hx hb dX3_squareTo_0 rfl (lv_at hl 0 rfl) ?_
  refine lv_iload_n hx hb dX3_squareTo_1 rfl (lv_at hl 1 rfl) ?_
  obtain ⟨r1, hcl, hm⟩ := bnd hm
  refine kVW C X (kX3_x l g a p1 u r1 hcl) (cw_X3_squareTo_X3_x_43 C) 0 (ci := 3) rfl rfl (As := [.int p1]) rfl hl (rest := []) rfl (Nat.le_of_ble_eq_true rfl) (st2 := [.int r1]) rfl dX3_squareTo_2 ⟨Nat.le_of_ble_eq_true rfl, Nat.le_of_ble_eq_true rfl⟩ (fun H locs X => ?_)
  clear hcl
  refine lv_iload_n hx hb dX3_squareTo_5 rfl (lv_at hl 2 rfl) ?_
  refine lv_isub hx hb dX3_squareTo_6 ?_
  refine lv_istore (lv' := [(4, .int (r1 - p2)), (0, .ref (a 0)), (1, .int p1), (2, .int p2), (3, .int p3)]) hx hb dX3_squareTo_7 hl (by decide) rfl (fun ls hl => ?_)
  refine lv_aload_n hx hb dX3_squareTo_9 rfl (lv_at hl 1 rfl) ?_
  refine lv_iload_n hx hb dX3_squareTo_10 rfl (lv_at hl 2 rfl) ?_
  obtain ⟨r2, hcl, hm⟩ := bnd hm
  refine kVW C X (kX3_y l g a p1 u r2 hcl) (cw_X3_squareTo_X3_y_46 C) 0 (ci := 3) rfl rfl (As := [.int p1]) rfl hl (rest := []) rfl (Nat.le_of_ble_eq_true rfl) (st2 := [.int r2]) rfl dX3_squareTo_11 ⟨Nat.le_of_ble_eq_true rfl, Nat.le_of_ble_eq_true rfl⟩ (fun H locs X => ?_)
  clear hcl
  refine lv_iload_n hx hb dX3_squareTo_14 rfl (lv_at hl 4 rfl) ?_
  refine lv_isub hx hb dX3_squareTo_15 ?_
  refine lv_istore (lv' := [(5, .int (r2 - p3)), (4, .int (r1 - p2)), (0, .ref (a 0)), (1, .int p1), (2, .int p2), (3, .int p3)]) hx hb dX3_squareTo_16 hl (by decide) rfl (fun ls hl => ?_)
  refine lv_iload hx hb dX3_squareTo_18 (lv_at hl 1 rfl) ?_
  refine lv_iload hx hb dX3_squareTo_20 (lv_at hl 1 rfl) ?_
  refine lv_imul hx hb dX3_squareTo_22 ?_
  refine lv_iload hx hb dX3_squareTo_23 (lv_at hl 0 rfl) ?_
  refine lv_iload hx hb dX3_squareTo_25 (lv_at hl 0 rfl) ?_
  refine lv_imul hx hb dX3_squareTo_27 ?_
  refine lv_iadd hx hb dX3_squareTo_28 ?_
  cases sm hm
  exact kiret C X dX3_squareTo_29
