-- L BrushStrokesLaw.low(II)I
abbrev rL_low : Room := { frames := 0, cells := 0, slots := 0, locals := 0 }
noncomputable def fL_low (p1 : Int32) (p2 : Int32) : Option (Int32) := gd (decide (¬ p2 = 0)) (some ((p1 &&& 2147483647) - (p1 &&& 2147483647) / p2 * p2))
set_option maxRecDepth 100000 in
set_option maxHeartbeats 4000000 in
theorem kL_low (l : Launch) (g : kG) (p1 : Int32) (p2 : Int32) (o1 : Int32) (hm : fL_low p1 p2 = some o1) : KM l yL_low wsL_low rL_low g [.int p1, .int p2] ([]) (some (.int o1)) ([]) 0 0 := by
  refine KM.of (nL := 2) (by decide) rfl (Nat.le_of_ble_eq_true rfl) ?_
  intro p e s m args below meth c A ls C X hl
  have C : CT g p s m args meth c RL cL_low 2 (some .int) wsL_low A := C
  have hx := C.1
  have hb := C.2.1
  have hl : lv_has ls 2 [(0, .int p1), (1, .int p2)] := hl
  rw [fL_low] at hm
  refine lv_iload_n hx hb dL_low_0 rfl (lv_at hl 0 rfl) ?_
  refine lv_ldc (v := 2147483647) hx hb C.2.2.2.2.1 (C.2.2.2.2.2.1 (.constant RL 8 2147483647) (by decide +kernel)) dL_low_1 ?_
  refine lv_iand hx hb dL_low_3 ?_
  refine lv_iload_n hx hb dL_low_4 rfl (lv_at hl 1 rfl) ?_
  obtain ⟨hgv, hm⟩ := gd_t hm
  refine lv_irem hx hb dL_low_5 (of_decide_eq_true hgv) ?_
  cases sm hm
  exact kiret C X dL_low_6
-- L BrushStrokesLaw.product([IIIII)J
abbrev rL_product : Room := { frames := 0, cells := 0, slots := 0, locals := 0 }
noncomputable def fL_product (p1 : Int32) (p2 : Int32) (p3 : Int32) (p4 : Int32) (na : Nat) (u : (Nat → Int32)) : Option (Int64) := gd (inb (3 * p2) na) (gd (inb (3 * p1) na) (gd (inb (3 * p4) na) (gd (inb (3 * p3) na) (gd (inb ((3 * p2) + 1) na) (gd (inb ((3 * p1) + 1) na) (gd (inb ((3 * p4) + 1) na) (gd (inb ((3 * p3) + 1) na) (some (((((u (3 * p2).toNatClampNeg) - (u (3 * p1).toNatClampNeg)).toInt64) * (((u (3 * p4).toNatClampNeg) - (u (3 * p3).toNatClampNeg)).toInt64)) + ((((u ((3 * p2) + 1).toNatClampNeg) - (u ((3 * p1) + 1).toNatClampNeg)).toInt64) * (((u ((3 * p4) + 1).toNatClampNeg) - (u ((3 * p3) + 1).toNatClampNeg)).toInt64)))))))))))
set_option maxRecDepth 100000 in
set_option maxHeartbeats 4000000 in
theorem kL_product (l : Launch) (g : kG) (a : Nat → Nat) (p1 : Int32) (p2 : Int32) (p3 : Int32) (p4 : Int32) (na : Nat) (u : (Nat → Int32)) (o1 : Int64) (hm : fL_product p1 p2 p3 p4 na u = some o1) : KM l yL_product wsL_product rL_product g [.ref (a 0), .int p1, .int p2, .int p3, .int p4] (wR g a na u) (some (.long o1)) (wR g a na u) 0 0 := by
  refine KM.of (nL := 5) (by decide) rfl (Nat.le_of_ble_eq_true rfl) ?_
  intro p e s m args below meth c A ls C X hl
  have C : CT g p s m args meth c RL cL_product 5 (some .long) wsL_product A := C
  have hx := C.1
  have hb := C.2.1
  have hl : lv_has ls 5 [(0, .ref (a 0)), (1, .int p1), (2, .int p2), (3, .int p3), (4, .int p4)] := hl
  rw [fL_product] at hm
  refine lv_aload_n hx hb dL_product_0 rfl (lv_at hl 0 rfl) ?_
  refine lv_iconst (v := 3) hx hb dL_product_1 (by decide) ?_
  refine lv_iload_n hx hb dL_product_2 rfl (lv_at hl 2 rfl) ?_
  refine lv_imul hx hb dL_product_3 ?_
  obtain ⟨hgi, hm⟩ := gd_t hm
  refine kiald C X 0 rfl hgi dL_product_4 ?_
  refine lv_aload_n hx hb dL_product_5 rfl (lv_at hl 0 rfl) ?_
  refine lv_iconst (v := 3) hx hb dL_product_6 (by decide) ?_
  refine lv_iload_n hx hb dL_product_7 rfl (lv_at hl 1 rfl) ?_
  refine lv_imul hx hb dL_product_8 ?_
  obtain ⟨hgi, hm⟩ := gd_t hm
  refine kiald C X 0 rfl hgi dL_product_9 ?_
  refine lv_isub hx hb dL_product_10 ?_
  refine lv_i2l (v := ((u (3 * p2).toNatClampNeg) - (u (3 * p1).toNatClampNeg)).toInt64) hx hb dL_product_11 rfl ?_
  refine lv_aload_n hx hb dL_product_12 rfl (lv_at hl 0 rfl) ?_
  refine lv_iconst (v := 3) hx hb dL_product_13 (by decide) ?_
  refine lv_iload hx hb dL_product_14 (lv_at hl 4 rfl) ?_
  refine lv_imul hx hb dL_product_16 ?_
  obtain ⟨hgi, hm⟩ := gd_t hm
  refine kiald C X 0 rfl hgi dL_product_17 ?_
  refine lv_aload_n hx hb dL_product_18 rfl (lv_at hl 0 rfl) ?_
  refine lv_iconst (v := 3) hx hb dL_product_19 (by decide) ?_
  refine lv_iload_n hx hb dL_product_20 rfl (lv_at hl 3 rfl) ?_
  refine lv_imul hx hb dL_product_21 ?_
  obtain ⟨hgi, hm⟩ := gd_t hm
  refine kiald C X 0 rfl hgi dL_product_22 ?_
  refine lv_isub hx hb dL_product_23 ?_
  refine lv_i2l (v := ((u (3 * p4).toNatClampNeg) - (u (3 * p3).toNatClampNeg)).toInt64) hx hb dL_product_24 rfl ?_
  refine lv_lmul hx hb dL_product_25 ?_
  refine lv_aload_n hx hb dL_product_26 rfl (lv_at hl 0 rfl) ?_
  refine lv_iconst (v := 3) hx hb dL_product_27 (by decide) ?_
  refine lv_iload_n hx hb dL_product_28 rfl (lv_at hl 2 rfl) ?_
  refine lv_imul hx hb dL_product_29 ?_
  refine lv_iconst (v := 1) hx hb dL_product_30 (by decide) ?_
  refine lv_iadd hx hb dL_product_31 ?_
  obtain ⟨hgi, hm⟩ := gd_t hm
  refine kiald C X 0 rfl hgi dL_product_32 ?_
  refine lv_aload_n hx hb dL_product_33 rfl (lv_at hl 0 rfl) ?_
  refine lv_iconst (v := 3) hx hb dL_product_34 (by decide) ?_
  refine lv_iload_n hx hb dL_product_35 rfl (lv_at hl 1 rfl) ?_
  refine lv_imul hx hb dL_product_36 ?_
  refine lv_iconst (v := 1) hx hb dL_product_37 (by decide) ?_
  refine lv_iadd hx hb dL_product_38 ?_
  obtain ⟨hgi, hm⟩ := gd_t hm
  refine kiald C X 0 rfl hgi dL_product_39 ?_
  refine lv_isub hx hb dL_product_40 ?_
  refine lv_i2l (v := ((u ((3 * p2) + 1).toNatClampNeg) - (u ((3 * p1) + 1).toNatClampNeg)).toInt64) hx hb dL_product_41 rfl ?_
  refine lv_aload_n hx hb dL_product_42 rfl (lv_at hl 0 rfl) ?_
  refine lv_iconst (v := 3) hx hb dL_product_43 (by decide) ?_
  refine lv_iload hx hb dL_product_44 (lv_at hl 4 rfl) ?_
  refine lv_imul hx hb dL_product_46 ?_
  refine lv_iconst (v := 1) hx hb dL_product_47 (by decide) ?_
  refine lv_iadd hx hb dL_product_48 ?_
  obtain ⟨hgi, hm⟩ := gd_t hm
  refine kiald C X 0 rfl hgi dL_product_49 ?_
  refine lv_aload_n hx hb dL_product_50 rfl (lv_at hl 0 rfl) ?_
  refine lv_iconst (v := 3) hx hb dL_product_51 (by decide) ?_
  refine lv_iload_n hx hb dL_product_52 rfl (lv_at hl 3 rfl) ?_
  refine lv_imul hx hb dL_product_53 ?_
  refine lv_iconst (v := 1) hx hb dL_product_54 (by decide) ?_
  refine lv_iadd hx hb dL_product_55 ?_
  obtain ⟨hgi, hm⟩ := gd_t hm
  refine kiald C X 0 rfl hgi dL_product_56 ?_
  refine lv_isub hx hb dL_product_57 ?_
  refine lv_i2l (v := ((u ((3 * p4) + 1).toNatClampNeg) - (u ((3 * p3) + 1).toNatClampNeg)).toInt64) hx hb dL_product_58 rfl ?_
  refine lv_lmul hx hb dL_product_59 ?_
  refine lv_ladd hx hb dL_product_60 ?_
  cases sm hm
  exact klret C X dL_product_61
-- L BrushStrokesLaw.area([IIII)J
abbrev rL_area : Room := { frames := 0, cells := 0, slots := 0, locals := 0 }
noncomputable def fL_area (p1 : Int32) (p2 : Int32) (p3 : Int32) (na : Nat) (u : (Nat → Int32)) : Option (Int64) := gd (inb (3 * p2) na) (gd (inb (3 * p1) na) (gd (inb ((3 * p3) + 1) na) (gd (inb ((3 * p1) + 1) na) (gd (inb ((3 * p2) + 1) na) (gd (inb ((3 * p1) + 1) na) (gd (inb (3 * p3) na) (gd (inb (3 * p1) na) (some (((((u (3 * p2).toNatClampNeg) - (u (3 * p1).toNatClampNeg)).toInt64) * (((u ((3 * p3) + 1).toNatClampNeg) - (u ((3 * p1) + 1).toNatClampNeg)).toInt64)) - ((((u ((3 * p2) + 1).toNatClampNeg) - (u ((3 * p1) + 1).toNatClampNeg)).toInt64) * (((u (3 * p3).toNatClampNeg) - (u (3 * p1).toNatClampNeg)).toInt64)))))))))))
set_option maxRecDepth 100000 in
set_option maxHeartbeats 4000000 in
theorem kL_area (l : Launch) (g : kG) (a : Nat → Nat) (p1 : Int32) (p2 : Int32) (p3 : Int32) (na : Nat) (u : (Nat → Int32)) (o1 : Int64) (hm : fL_area p1 p2 p3 na u = some o1) : KM l yL_area wsL_area rL_area g [.ref (a 0), .int p1, .int p2, .int p3] (wR g a na u) (some (.long o1)) (wR g a na u) 0 0 := by
  refine KM.of (nL := 4) (by decide) rfl (Nat.le_of_ble_eq_true rfl) ?_
  intro p e s m args below meth c A ls C X hl
  have C : CT g p s m args meth c RL cL_area 4 (some .long) wsL_area A := C
  have hx := C.1
  have hb := C.2.1
  have hl : lv_has ls 4 [(0, .ref (a 0)), (1, .int p1), (2, .int p2), (3, .int p3)] := hl
  rw [fL_area] at hm
  refine lv_aload_n hx hb dL_area_0 rfl (lv_at hl 0 rfl) ?_
  refine lv_iconst (v := 3) hx hb dL_area_1 (by decide) ?_
  refine lv_iload_n hx hb dL_area_2 rfl (lv_at hl 2 rfl) ?_
  refine lv_imul hx hb dL_area_3 ?_
  obtain ⟨hgi, hm⟩ := gd_t hm
  refine kiald C X 0 rfl hgi dL_area_4 ?_
  refine lv_aload_n hx hb dL_area_5 rfl (lv_at hl 0 rfl) ?_
  refine lv_iconst (v := 3) hx hb dL_area_6 (by decide) ?_
  refine lv_iload_n hx hb dL_area_7 rfl (lv_at hl 1 rfl) ?_
  refine lv_imul hx hb dL_area_8 ?_
  obtain ⟨hgi, hm⟩ := gd_t hm
  refine kiald C X 0 rfl hgi dL_area_9 ?_
  refine lv_isub hx hb dL_area_10 ?_
  refine lv_i2l (v := ((u (3 * p2).toNatClampNeg) - (u (3 * p1).toNatClampNeg)).toInt64) hx hb dL_area_11 rfl ?_
  refine lv_aload_n hx hb dL_area_12 rfl (lv_at hl 0 rfl) ?_
  refine lv_iconst (v := 3) hx hb dL_area_13 (by decide) ?_
  refine lv_iload_n hx hb dL_area_14 rfl (lv_at hl 3 rfl) ?_
  refine lv_imul hx hb dL_area_15 ?_
  refine lv_iconst (v := 1) hx hb dL_area_16 (by decide) ?_
  refine lv_iadd hx hb dL_area_17 ?_
  obtain ⟨hgi, hm⟩ := gd_t hm
  refine kiald C X 0 rfl hgi dL_area_18 ?_
  refine lv_aload_n hx hb dL_area_19 rfl (lv_at hl 0 rfl) ?_
  refine lv_iconst (v := 3) hx hb dL_area_20 (by decide) ?_
  refine lv_iload_n hx hb dL_area_21 rfl (lv_at hl 1 rfl) ?_
  refine lv_imul hx hb dL_area_22 ?_
  refine lv_iconst (v := 1) hx hb dL_area_23 (by decide) ?_
  refine lv_iadd hx hb dL_area_24 ?_
  obtain ⟨hgi, hm⟩ := gd_t hm
  refine kiald C X 0 rfl hgi dL_area_25 ?_
  refine lv_isub hx hb dL_area_26 ?_
  refine lv_i2l (v := ((u ((3 * p3) + 1).toNatClampNeg) - (u ((3 * p1) + 1).toNatClampNeg)).toInt64) hx hb dL_area_27 rfl ?_
  refine lv_lmul hx hb dL_area_28 ?_
  refine lv_aload_n hx hb dL_area_29 rfl (lv_at hl 0 rfl) ?_
  refine lv_iconst (v := 3) hx hb dL_area_30 (by decide) ?_
  refine lv_iload_n hx hb dL_area_31 rfl (lv_at hl 2 rfl) ?_
  refine lv_imul hx hb dL_area_32 ?_
  refine lv_iconst (v := 1) hx hb dL_area_33 (by decide) ?_
  refine lv_iadd hx hb dL_area_34 ?_
  obtain ⟨hgi, hm⟩ := gd_t hm
  refine kiald C X 0 rfl hgi dL_area_35 ?_
  refine lv_aload_n hx hb dL_area_36 rfl (lv_at hl 0 rfl) ?_
  refine lv_iconst (v := 3) hx hb dL_area_37 (by decide) ?_
  refine lv_iload_n hx hb dL_area_38 rfl (lv_at hl 1 rfl) ?_
  refine lv_imul hx hb dL_area_39 ?_
  refine lv_iconst (v := 1) hx hb dL_area_40 (by decide) ?_
  refine lv_iadd hx hb dL_area_41 ?_
  obtain ⟨hgi, hm⟩ := gd_t hm
  refine kiald C X 0 rfl hgi dL_area_42 ?_
  refine lv_isub hx hb dL_area_43 ?_
  refine lv_i2l (v := ((u ((3 * p2) + 1).toNatClampNeg) - (u ((3 * p1) + 1).toNatClampNeg)).toInt64) hx hb dL_area_44 rfl ?_
  refine lv_aload_n hx hb dL_area_45 rfl (lv_at hl 0 rfl) ?_
  refine lv_iconst (v := 3) hx hb dL_area_46 (by decide) ?_
  refine lv_iload_n hx hb dL_area_47 rfl (lv_at hl 3 rfl) ?_
  refine lv_imul hx hb dL_area_48 ?_
  obtain ⟨hgi, hm⟩ := gd_t hm
  refine kiald C X 0 rfl hgi dL_area_49 ?_
  refine lv_aload_n hx hb dL_area_50 rfl (lv_at hl 0 rfl) ?_
  refine lv_iconst (v := 3) hx hb dL_area_51 (by decide) ?_
  refine lv_iload_n hx hb dL_area_52 rfl (lv_at hl 1 rfl) ?_
  refine lv_imul hx hb dL_area_53 ?_
  obtain ⟨hgi, hm⟩ := gd_t hm
  refine kiald C X 0 rfl hgi dL_area_54 ?_
  refine lv_isub hx hb dL_area_55 ?_
  refine lv_i2l (v := ((u (3 * p3).toNatClampNeg) - (u (3 * p1).toNatClampNeg)).toInt64) hx hb dL_area_56 rfl ?_
  refine lv_lmul hx hb dL_area_57 ?_
  refine lv_lsub hx hb dL_area_58 ?_
  cases sm hm
  exact klret C X dL_area_59
-- L BrushStrokesLaw.above([IIII)J
abbrev rL_above : Room := { frames := 1, cells := 0, slots := 0, locals := 24 }
theorem cw_L_above_L_product_42 {p : Program} {s : State} {m : MethodId} {args : Array Value} {meth : Method} {c : Code} {g : kG} {A : Nat → Prop} (C : CT g p s m args meth c RL cL_above 8 (some .long) wsL_above A) : CallB rL_above s args RL 42 yL_product cL_product 5 (some .long) wsL_product rL_product 0 0 5 ∧ (Cond.static yL_product).before args s = true := cwS 5 C.2.2.2.2.2.1 gL_above_L_product rfl rfl rfl (by decide +kernel) ⟨Nat.le_of_ble_eq_true rfl, Nat.le_of_ble_eq_true rfl⟩
theorem cw_L_above_L_area_48 {p : Program} {s : State} {m : MethodId} {args : Array Value} {meth : Method} {c : Code} {g : kG} {A : Nat → Prop} (C : CT g p s m args meth c RL cL_above 8 (some .long) wsL_above A) : CallB rL_above s args RL 48 yL_area cL_area 4 (some .long) wsL_area rL_area 0 0 4 ∧ (Cond.static yL_area).before args s = true := cwS 4 C.2.2.2.2.2.1 gL_above_L_area rfl rfl rfl (by decide +kernel) ⟨Nat.le_of_ble_eq_true rfl, Nat.le_of_ble_eq_true rfl⟩
noncomputable def fL_above (p1 : Int32) (p2 : Int32) (p3 : Int32) (na : Nat) (u : (Nat → Int32)) : Option (Int64) := (fL_product p2 p1 p2 p3 na u).bind fun r1 => if 0 < r1 then ((fL_product p2 p3 p2 p3 na u).bind fun r2 => if r1 < r2 then ((fL_area p2 p1 p3 na u).bind fun r3 => some (r3 * r3)) else ((fL_product p3 p1 p3 p1 na u).bind fun r4 => some r4)) else ((fL_product p2 p1 p2 p1 na u).bind fun r5 => some r5)
set_option maxRecDepth 100000 in
set_option maxHeartbeats 4000000 in
theorem kL_above (l : Launch) (g : kG) (a : Nat → Nat) (p1 : Int32) (p2 : Int32) (p3 : Int32) (na : Nat) (u : (Nat → Int32)) (o1 : Int64) (hm : fL_above p1 p2 p3 na u = some o1) : KM l yL_above wsL_above rL_above g [.ref (a 0), .int p1, .int p2, .int p3] (wR g a na u) (some (.long o1)) (wR g a na u) 0 0 := by
  refine KM.of (nL := 8) (by decide) rfl (Nat.le_of_ble_eq_true rfl) ?_
  intro p e s m args below meth c A ls C X hl
  have C : CT g p s m args meth c RL cL_above 8 (some .long) wsL_above A := C
  have hx := C.1
  have hb := C.2.1
  have hl : lv_has ls 8 [(0, .ref (a 0)), (1, .int p1), (2, .int p2), (3, .int p3)] := hl
  rw [fL_above] at hm
  refine lv_aload_n hx hb dL_above_0 rfl (lv_at hl 0 rfl) ?_
  refine lv_iload_n hx hb dL_above_1 rfl (lv_at hl 2 rfl) ?_
  refine lv_iload_n hx hb dL_above_2 rfl (lv_at hl 1 rfl) ?_
  refine lv_iload_n hx hb dL_above_3 rfl (lv_at hl 2 rfl) ?_
  refine lv_iload_n hx hb dL_above_4 rfl (lv_at hl 3 rfl) ?_
  obtain ⟨r1, hcl, hm⟩ := bnd hm
  refine kSF [0] [] C X (kL_product l g a p2 p1 p2 p3 na u r1 hcl) (cw_L_above_L_product_42 C) rfl (by decide) rfl (by decide) (by decide) (As := [.ref (a 0), .int p2, .int p1, .int p2, .int p3]) rfl hl (rest := []) rfl (Nat.le_of_ble_eq_true rfl) (st2 := [.long r1]) rfl dL_above_5 ⟨Nat.le_of_ble_eq_true rfl, Nat.le_of_ble_eq_true rfl⟩ [0] (by decide) (w3 := wR g a na u) rfl (fun H locs X => ?_)
  clear hcl
  refine lv_lstore (lv' := [(4, .long r1), (0, .ref (a 0)), (1, .int p1), (2, .int p2), (3, .int p3)]) hx hb dL_above_8 hl (by decide) rfl (fun ls hl => ?_)
  refine lv_lload hx hb dL_above_10 (lv_at hl 0 rfl) ?_
  refine lv_lconst (v := 0) hx hb dL_above_12 (by decide) ?_
  refine klcmp_gt (tgt := 26) hx hb dL_above_13 dL_above_14 (by decide) (fun hc => ?_) (fun hc => ?_)
  · have hm := ifp hc hm
    refine lv_lload hx hb dL_above_26 (lv_at hl 0 rfl) ?_
    refine lv_aload_n hx hb dL_above_28 rfl (lv_at hl 1 rfl) ?_
    refine lv_iload_n hx hb dL_above_29 rfl (lv_at hl 3 rfl) ?_
    refine lv_iload_n hx hb dL_above_30 rfl (lv_at hl 4 rfl) ?_
    refine lv_iload_n hx hb dL_above_31 rfl (lv_at hl 3 rfl) ?_
    refine lv_iload_n hx hb dL_above_32 rfl (lv_at hl 4 rfl) ?_
    obtain ⟨r2, hcl, hm⟩ := bnd hm
    refine kSF [0] [] C X (kL_product l g a p2 p3 p2 p3 na u r2 hcl) (cw_L_above_L_product_42 C) rfl (by decide) rfl (by decide) (by decide) (As := [.ref (a 0), .int p2, .int p3, .int p2, .int p3]) rfl hl (rest := [.long r1]) rfl (Nat.le_of_ble_eq_true rfl) (st2 := [.long r2, .long r1]) rfl dL_above_33 ⟨Nat.le_of_ble_eq_true rfl, Nat.le_of_ble_eq_true rfl⟩ [0] (by decide) (w3 := wR g a na u) rfl (fun H locs X => ?_)
    clear hcl
    refine klcmp_lt (tgt := 49) hx hb dL_above_36 dL_above_37 (by decide) (fun hc => ?_) (fun hc => ?_)
    · have hm := ifp hc hm
      refine lv_aload_n hx hb dL_above_49 rfl (lv_at hl 1 rfl) ?_
      refine lv_iload_n hx hb dL_above_50 rfl (lv_at hl 3 rfl) ?_
      refine lv_iload_n hx hb dL_above_51 rfl (lv_at hl 2 rfl) ?_
      refine lv_iload_n hx hb dL_above_52 rfl (lv_at hl 4 rfl) ?_
      obtain ⟨r3, hcl, hm⟩ := bnd hm
      refine kSF [0] [] C X (kL_area l g a p2 p1 p3 na u r3 hcl) (cw_L_above_L_area_48 C) rfl (by decide) rfl (by decide) (by decide) (As := [.ref (a 0), .int p2, .int p1, .int p3]) rfl hl (rest := []) rfl (Nat.le_of_ble_eq_true rfl) (st2 := [.long r3]) rfl dL_above_53 ⟨Nat.le_of_ble_eq_true rfl, Nat.le_of_ble_eq_true rfl⟩ [0] (by decide) (w3 := wR g a na u) rfl (fun H locs X => ?_)
      clear hcl
      refine lv_lstore (lv' := [(6, .long r3), (4, .long r1), (0, .ref (a 0)), (1, .int p1), (2, .int p2), (3, .int p3)]) hx hb dL_above_56 hl (by decide) rfl (fun ls hl => ?_)
      refine lv_lload hx hb dL_above_58 (lv_at hl 0 rfl) ?_
      refine lv_lload hx hb dL_above_60 (lv_at hl 0 rfl) ?_
      refine lv_lmul hx hb dL_above_62 ?_
      cases sm hm
      exact klret C X dL_above_63
    · have hm := ifn hc hm
      refine lv_aload_n hx hb dL_above_40 rfl (lv_at hl 1 rfl) ?_
      refine lv_iload_n hx hb dL_above_41 rfl (lv_at hl 4 rfl) ?_
      refine lv_iload_n hx hb dL_above_42 rfl (lv_at hl 2 rfl) ?_
      refine lv_iload_n hx hb dL_above_43 rfl (lv_at hl 4 rfl) ?_
      refine lv_iload_n hx hb dL_above_44 rfl (lv_at hl 2 rfl) ?_
      obtain ⟨r4, hcl, hm⟩ := bnd hm
      refine kSF [0] [] C X (kL_product l g a p3 p1 p3 p1 na u r4 hcl) (cw_L_above_L_product_42 C) rfl (by decide) rfl (by decide) (by decide) (As := [.ref (a 0), .int p3, .int p1, .int p3, .int p1]) rfl hl (rest := []) rfl (Nat.le_of_ble_eq_true rfl) (st2 := [.long r4]) rfl dL_above_45 ⟨Nat.le_of_ble_eq_true rfl, Nat.le_of_ble_eq_true rfl⟩ [0] (by decide) (w3 := wR g a na u) rfl (fun H locs X => ?_)
      clear hcl
      cases sm hm
      exact klret C X dL_above_48
  · have hm := ifn hc hm
    refine lv_aload_n hx hb dL_above_17 rfl (lv_at hl 1 rfl) ?_
    refine lv_iload_n hx hb dL_above_18 rfl (lv_at hl 3 rfl) ?_
    refine lv_iload_n hx hb dL_above_19 rfl (lv_at hl 2 rfl) ?_
    refine lv_iload_n hx hb dL_above_20 rfl (lv_at hl 3 rfl) ?_
    refine lv_iload_n hx hb dL_above_21 rfl (lv_at hl 2 rfl) ?_
    obtain ⟨r5, hcl, hm⟩ := bnd hm
    refine kSF [0] [] C X (kL_product l g a p2 p1 p2 p1 na u r5 hcl) (cw_L_above_L_product_42 C) rfl (by decide) rfl (by decide) (by decide) (As := [.ref (a 0), .int p2, .int p1, .int p2, .int p1]) rfl hl (rest := []) rfl (Nat.le_of_ble_eq_true rfl) (st2 := [.long r5]) rfl dL_above_22 ⟨Nat.le_of_ble_eq_true rfl, Nat.le_of_ble_eq_true rfl⟩ [0] (by decide) (w3 := wR g a na u) rfl (fun H locs X => ?_)
    clear hcl
    cases sm hm
    exact klret C X dL_above_25
-- L BrushStrokesLaw.below([IIII)J
abbrev rL_below : Room := { frames := 1, cells := 0, slots := 0, locals := 24 }
theorem cw_L_below_L_product_42 {p : Program} {s : State} {m : MethodId} {args : Array Value} {meth : Method} {c : Code} {g : kG} {A : Nat → Prop} (C : CT g p s m args meth c RL cL_below 6 (some .long) wsL_below A) : CallB rL_below s args RL 42 yL_product cL_product 5 (some .long) wsL_product rL_product 0 0 5 ∧ (Cond.static yL_product).before args s = true := cwS 5 C.2.2.2.2.2.1 gL_below_L_product rfl rfl rfl (by decide +kernel) ⟨Nat.le_of_ble_eq_true rfl, Nat.le_of_ble_eq_true rfl⟩
noncomputable def fL_below (p1 : Int32) (p2 : Int32) (p3 : Int32) (na : Nat) (u : (Nat → Int32)) : Option (Int64) := (fL_product p2 p1 p2 p3 na u).bind fun r1 => ((if r1 ≤ 0 then (some 1) else ((fL_product p2 p3 p2 p3 na u).bind fun r5 => if r1 < r5 then ((fL_product p2 p3 p2 p3 na u).bind fun r6 => some r6) else (some 1))) : Option (Int64)).bind fun v4 => some v4
set_option maxRecDepth 100000 in
set_option maxHeartbeats 4000000 in
theorem kL_below (l : Launch) (g : kG) (a : Nat → Nat) (p1 : Int32) (p2 : Int32) (p3 : Int32) (na : Nat) (u : (Nat → Int32)) (o1 : Int64) (hm : fL_below p1 p2 p3 na u = some o1) : KM l yL_below wsL_below rL_below g [.ref (a 0), .int p1, .int p2, .int p3] (wR g a na u) (some (.long o1)) (wR g a na u) 0 0 := by
  refine KM.of (nL := 6) (by decide) rfl (Nat.le_of_ble_eq_true rfl) ?_
  intro p e s m args below meth c A ls C X hl
  have C : CT g p s m args meth c RL cL_below 6 (some .long) wsL_below A := C
  have hx := C.1
  have hb := C.2.1
  have hl : lv_has ls 6 [(0, .ref (a 0)), (1, .int p1), (2, .int p2), (3, .int p3)] := hl
  rw [fL_below] at hm
  refine lv_aload_n hx hb dL_below_0 rfl (lv_at hl 0 rfl) ?_
  refine lv_iload_n hx hb dL_below_1 rfl (lv_at hl 2 rfl) ?_
  refine lv_iload_n hx hb dL_below_2 rfl (lv_at hl 1 rfl) ?_
  refine lv_iload_n hx hb dL_below_3 rfl (lv_at hl 2 rfl) ?_
  refine lv_iload_n hx hb dL_below_4 rfl (lv_at hl 3 rfl) ?_
  obtain ⟨r1, hcl, hm⟩ := bnd hm
  refine kSF [0] [] C X (kL_product l g a p2 p1 p2 p3 na u r1 hcl) (cw_L_below_L_product_42 C) rfl (by decide) rfl (by decide) (by decide) (As := [.ref (a 0), .int p2, .int p1, .int p2, .int p3]) rfl hl (rest := []) rfl (Nat.le_of_ble_eq_true rfl) (st2 := [.long r1]) rfl dL_below_5 ⟨Nat.le_of_ble_eq_true rfl, Nat.le_of_ble_eq_true rfl⟩ [0] (by decide) (w3 := wR g a na u) rfl (fun H locs X => ?_)
  clear hcl
  refine lv_lstore (lv' := [(4, .long r1), (0, .ref (a 0)), (1, .int p1), (2, .int p2), (3, .int p3)]) hx hb dL_below_8 hl (by decide) rfl (fun ls hl => ?_)
  refine lv_lload hx hb dL_below_10 (lv_at hl 0 rfl) ?_
  refine lv_lconst (v := 0) hx hb dL_below_12 (by decide) ?_
  obtain ⟨v4, hE, hm⟩ := bnd hm
  have K : ∀ (H : Heap) (locs : List Loc) (ls : Array Slot), ST g A s H locs (wR g a na u) → lv_has ls 6 [] → W p l e rL_below s m args below meth c H locs 0 0 (kEnd g below args s (some (.long o1)) (wR g a na u) A 0 0) (F0 m 43 ls [.long v4]) := by
    intro H locs ls X hl
    clear hE
    cases sm hm
    exact klret C X dL_below_43
  clear hm
  have hm := hE
  clear hE
  refine klcmp_le (tgt := 31) hx hb dL_below_13 dL_below_14 (by decide) (fun hc => ?_) (fun hc => ?_)
  · have hm := ifp hc hm
    refine lv_lconst (v := 1) hx hb dL_below_31 (by decide) ?_
    refine lv_goto (tgt := 43) hx hb dL_below_32 (by decide) ?_
    cases sm hm
    exact K _ _ _ X (lv_sub hl [] rfl)
  · have hm := ifn hc hm
    refine lv_lload hx hb dL_below_17 (lv_at hl 0 rfl) ?_
    refine lv_aload_n hx hb dL_below_19 rfl (lv_at hl 1 rfl) ?_
    refine lv_iload_n hx hb dL_below_20 rfl (lv_at hl 3 rfl) ?_
    refine lv_iload_n hx hb dL_below_21 rfl (lv_at hl 4 rfl) ?_
    refine lv_iload_n hx hb dL_below_22 rfl (lv_at hl 3 rfl) ?_
    refine lv_iload_n hx hb dL_below_23 rfl (lv_at hl 4 rfl) ?_
    obtain ⟨r5, hcl, hm⟩ := bnd hm
    refine kSF [0] [] C X (kL_product l g a p2 p3 p2 p3 na u r5 hcl) (cw_L_below_L_product_42 C) rfl (by decide) rfl (by decide) (by decide) (As := [.ref (a 0), .int p2, .int p3, .int p2, .int p3]) rfl hl (rest := [.long r1]) rfl (Nat.le_of_ble_eq_true rfl) (st2 := [.long r5, .long r1]) rfl dL_below_24 ⟨Nat.le_of_ble_eq_true rfl, Nat.le_of_ble_eq_true rfl⟩ [0] (by decide) (w3 := wR g a na u) rfl (fun H locs X => ?_)
    clear hcl
    refine klcmp_lt (tgt := 35) hx hb dL_below_27 dL_below_28 (by decide) (fun hc => ?_) (fun hc => ?_)
    · have hm := ifp hc hm
      refine lv_aload_n hx hb dL_below_35 rfl (lv_at hl 1 rfl) ?_
      refine lv_iload_n hx hb dL_below_36 rfl (lv_at hl 3 rfl) ?_
      refine lv_iload_n hx hb dL_below_37 rfl (lv_at hl 4 rfl) ?_
      refine lv_iload_n hx hb dL_below_38 rfl (lv_at hl 3 rfl) ?_
      refine lv_iload_n hx hb dL_below_39 rfl (lv_at hl 4 rfl) ?_
      obtain ⟨r6, hcl, hm⟩ := bnd hm
      refine kSF [0] [] C X (kL_product l g a p2 p3 p2 p3 na u r6 hcl) (cw_L_below_L_product_42 C) rfl (by decide) rfl (by decide) (by decide) (As := [.ref (a 0), .int p2, .int p3, .int p2, .int p3]) rfl hl (rest := []) rfl (Nat.le_of_ble_eq_true rfl) (st2 := [.long r6]) rfl dL_below_40 ⟨Nat.le_of_ble_eq_true rfl, Nat.le_of_ble_eq_true rfl⟩ [0] (by decide) (w3 := wR g a na u) rfl (fun H locs X => ?_)
      clear hcl
      cases sm hm
      exact K _ _ _ X (lv_sub hl [] rfl)
    · have hm := ifn hc hm
      refine lv_lconst (v := 1) hx hb dL_below_31 (by decide) ?_
      refine lv_goto (tgt := 43) hx hb dL_below_32 (by decide) ?_
      cases sm hm
      exact K _ _ _ X (lv_sub hl [] rfl)
-- L BrushStrokesLaw.root(J)I
abbrev rL_root : Room := { frames := 0, cells := 0, slots := 0, locals := 0 }
noncomputable def bL_root_5 (c1 : Int64) : Int32 × Int32 → Option ((Int32 × Int32) ⊕ (Int32))
  | (x2, x3) => if (x3 - x2) ≤ 1 then (some (.inr x2)) else (((if c1 < ((((x2 + x3) >>> (1 &&& 31)).toInt64) * (((x2 + x3) >>> (1 &&& 31)).toInt64)) then (some (x2, (x2 + x3) >>> (1 &&& 31))) else (some ((x2 + x3) >>> (1 &&& 31), x3))) : Option (Int32 × Int32)).bind fun (v5, v6) => some (.inl (v5, v6)))
noncomputable def lL_root_5 (c1 : Int64) (x2 : Int32) (x3 : Int32) : Option (Int32) := lp (bL_root_5 c1) (x2, x3)
theorem lL_root_5_eq (c1 : Int64) (x2 : Int32) (x3 : Int32) : lL_root_5 c1 x2 x3 = (if (x3 - x2) ≤ 1 then (some (.inr x2)) else (((if c1 < ((((x2 + x3) >>> (1 &&& 31)).toInt64) * (((x2 + x3) >>> (1 &&& 31)).toInt64)) then (some (x2, (x2 + x3) >>> (1 &&& 31))) else (some ((x2 + x3) >>> (1 &&& 31), x3))) : Option (Int32 × Int32)).bind fun (v5, v6) => some (.inl (v5, v6)))).bind fun r => Sum.elim (fun z => lL_root_5 c1 z.1 z.2) (fun r => some r) r := lp_eq (bL_root_5 c1) (x2, x3)
set_option maxRecDepth 100000 in
set_option maxHeartbeats 4000000 in
theorem tL_root_5 {p : Program} {l : Launch} {e : Env} {s : State} {m : MethodId} {args : Array Value} {below : List Frame} {meth : Method} {c : Code} {g : kG} {A : Nat → Prop} {Q : State → Prop} (C : CT g p s m args meth c RL cL_root 5 (some .int) wsL_root A) (c1 : Int64) (y4 : Int32) (kk : ∀ (H : Heap) (locs : List Loc) (ls : Array Slot), ST g A s H locs ([]) → lv_has ls 5 [(2, .int y4)] → W p l e rL_root s m args below meth c H locs 0 0 Q (F0 m 43 ls [])) : ∀ (n : Nat) (x2 : Int32) (x3 : Int32), whl (bL_root_5 c1) n (x2, x3) = some y4 → ∀ (H : Heap) (locs : List Loc) (ls : Array Slot), ST g A s H locs ([]) → lv_has ls 5 [(0, .long c1), (2, .int x2), (3, .int x3)] → W p l e rL_root s m args below meth c H locs 0 0 Q (F0 m 5 ls []) := by
  have hx := C.1
  have hb := C.2.1
  intro n
  induction n with
  | zero =>
    intro x2 x3 hm
    cases hm
  | succ n ih =>
    intro x2 x3 hm H locs ls X hl
    rw [whl] at hm
    obtain ⟨q, hq, hm2⟩ := bnd hm
    clear hm
    have hm := hq
    clear hq
    rw [bL_root_5] at hm
    refine lv_iload_n hx hb dL_root_5 rfl (lv_at hl 2 rfl) ?_
    refine lv_iload_n hx hb dL_root_6 rfl (lv_at hl 1 rfl) ?_
    refine lv_isub hx hb dL_root_7 ?_
    refine lv_iconst (v := 1) hx hb dL_root_8 (by decide) ?_
    refine lv_icmp_le (tgt := 43) hx hb dL_root_9 (by decide) (fun hc => ?_) (fun hc => ?_)
    · have hm := ifp hc hm
      cases sm hm
      cases sm hm2
      exact kk _ _ _ X (lv_sub hl [1] rfl)
    · have hm := ifn hc hm
      refine lv_iload_n hx hb dL_root_12 rfl (lv_at hl 1 rfl) ?_
      refine lv_iload_n hx hb dL_root_13 rfl (lv_at hl 2 rfl) ?_
      refine lv_iadd hx hb dL_root_14 ?_
      refine lv_iconst (v := 1) hx hb dL_root_15 (by decide) ?_
      refine lv_ishr hx hb dL_root_16 ?_
      refine lv_istore (lv' := [(4, .int ((x2 + x3) >>> (1 &&& 31))), (0, .long c1), (2, .int x2), (3, .int x3)]) hx hb dL_root_17 hl (by decide) rfl (fun ls hl => ?_)
      refine lv_iload hx hb dL_root_19 (lv_at hl 0 rfl) ?_
      refine lv_i2l (v := ((x2 + x3) >>> (1 &&& 31)).toInt64) hx hb dL_root_21 rfl ?_
      refine lv_iload hx hb dL_root_22 (lv_at hl 0 rfl) ?_
      refine lv_i2l (v := ((x2 + x3) >>> (1 &&& 31)).toInt64) hx hb dL_root_24 rfl ?_
      refine lv_lmul hx hb dL_root_25 ?_
      refine lv_lload_n hx hb dL_root_26 rfl (lv_at hl 1 rfl) ?_
      obtain ⟨⟨v5, v6⟩, hE, hm⟩ := bnd hm
      have K : ∀ (H : Heap) (locs : List Loc) (ls : Array Slot), ST g A s H locs ([]) → lv_has ls 5 [(0, .long c1), (2, .int v5), (3, .int v6)] → W p l e rL_root s m args below meth c H locs 0 0 Q (F0 m 40 ls []) := by
        intro H locs ls X hl
        clear hE
        refine lv_goto (tgt := 5) hx hb dL_root_40 (by decide) ?_
        cases sm hm
        exact ih _ _ hm2 _ _ _ X (lv_sub hl [0, 1, 2] rfl)
      clear hm
      have hm := hE
      clear hE
      refine klcmp_gt (tgt := 37) hx hb dL_root_27 dL_root_28 (by decide) (fun hc => ?_) (fun hc => ?_)
      · have hm := ifp hc hm
        refine lv_iload hx hb dL_root_37 (lv_at hl 0 rfl) ?_
        refine lv_istore_n (lv' := [(3, .int ((x2 + x3) >>> (1 &&& 31))), (4, .int ((x2 + x3) >>> (1 &&& 31))), (0, .long c1), (2, .int x2)]) hx hb dL_root_39 rfl hl (by decide) rfl (fun ls hl => ?_)
        cases sm hm
        exact K _ _ _ X (lv_sub hl [2, 3, 0] rfl)
      · have hm := ifn hc hm
        refine lv_iload hx hb dL_root_31 (lv_at hl 0 rfl) ?_
        refine lv_istore_n (lv' := [(2, .int ((x2 + x3) >>> (1 &&& 31))), (4, .int ((x2 + x3) >>> (1 &&& 31))), (0, .long c1), (3, .int x3)]) hx hb dL_root_33 rfl hl (by decide) rfl (fun ls hl => ?_)
        refine lv_goto (tgt := 40) hx hb dL_root_34 (by decide) ?_
        cases sm hm
        exact K _ _ _ X (lv_sub hl [2, 0, 3] rfl)
noncomputable def fL_root (p1 : Int64) : Option (Int32) := (lL_root_5 p1 0 1048576).bind fun y7 => some y7
set_option maxRecDepth 100000 in
set_option maxHeartbeats 4000000 in
theorem kL_root (l : Launch) (g : kG) (p1 : Int64) (o1 : Int32) (hm : fL_root p1 = some o1) : KM l yL_root wsL_root rL_root g [.long p1] ([]) (some (.int o1)) ([]) 0 0 := by
  refine KM.of (nL := 5) (by decide) rfl (Nat.le_of_ble_eq_true rfl) ?_
  intro p e s m args below meth c A ls C X hl
  have C : CT g p s m args meth c RL cL_root 5 (some .int) wsL_root A := C
  have hx := C.1
  have hb := C.2.1
  have hl : lv_has ls 5 [(0, .long p1)] := hl
  rw [fL_root] at hm
  refine lv_iconst (v := 0) hx hb dL_root_0 (by decide) ?_
  refine lv_istore_n (lv' := [(2, .int 0), (0, .long p1)]) hx hb dL_root_1 rfl hl (by decide) rfl (fun ls hl => ?_)
  refine lv_ldc (v := 1048576) hx hb C.2.2.2.2.1 (C.2.2.2.2.2.1 (.constant RL 52 1048576) (by decide +kernel)) dL_root_2 ?_
  refine lv_istore_n (lv' := [(3, .int 1048576), (2, .int 0), (0, .long p1)]) hx hb dL_root_4 rfl hl (by decide) rfl (fun ls hl => ?_)
  obtain ⟨y7, hL, hm⟩ := bnd hm
  obtain ⟨nn, hn⟩ := lp_run hL
  refine tL_root_5 C p1 y7 (fun H locs ls X hl => ?_) nn _ _ hn _ _ _ X (lv_sub hl [2, 1, 0] rfl)
  clear hL hn
  refine lv_iload_n hx hb dL_root_43 rfl (lv_at hl 0 rfl) ?_
  cases sm hm
  exact kiret C X dL_root_44
-- L BrushStrokesLaw.hundredths([IIII)I
abbrev rL_hundredths : Room := { frames := 2, cells := 0, slots := 0, locals := 51 }
theorem cw_L_hundredths_L_below_58 {p : Program} {s : State} {m : MethodId} {args : Array Value} {meth : Method} {c : Code} {g : kG} {A : Nat → Prop} (C : CT g p s m args meth c RL cL_hundredths 4 (some .int) wsL_hundredths A) : CallB rL_hundredths s args RL 58 yL_below cL_below 6 (some .long) wsL_below rL_below 0 0 4 ∧ (Cond.static yL_below).before args s = true := cwS 4 C.2.2.2.2.2.1 gL_hundredths_L_below rfl rfl rfl (by decide +kernel) ⟨Nat.le_of_ble_eq_true rfl, Nat.le_of_ble_eq_true rfl⟩
theorem cw_L_hundredths_L_root_61 {p : Program} {s : State} {m : MethodId} {args : Array Value} {meth : Method} {c : Code} {g : kG} {A : Nat → Prop} (C : CT g p s m args meth c RL cL_hundredths 4 (some .int) wsL_hundredths A) : CallB rL_hundredths s args RL 61 yL_root cL_root 5 (some .int) wsL_root rL_root 0 0 1 ∧ (Cond.static yL_root).before args s = true := cwS 1 C.2.2.2.2.2.1 gL_hundredths_L_root rfl rfl rfl (by decide +kernel) ⟨Nat.le_of_ble_eq_true rfl, Nat.le_of_ble_eq_true rfl⟩
theorem cw_L_hundredths_L_above_55 {p : Program} {s : State} {m : MethodId} {args : Array Value} {meth : Method} {c : Code} {g : kG} {A : Nat → Prop} (C : CT g p s m args meth c RL cL_hundredths 4 (some .int) wsL_hundredths A) : CallB rL_hundredths s args RL 55 yL_above cL_above 8 (some .long) wsL_above rL_above 0 0 4 ∧ (Cond.static yL_above).before args s = true := cwS 4 C.2.2.2.2.2.1 gL_hundredths_L_above rfl rfl rfl (by decide +kernel) ⟨Nat.le_of_ble_eq_true rfl, Nat.le_of_ble_eq_true rfl⟩
noncomputable def fL_hundredths (p1 : Int32) (p2 : Int32) (p3 : Int32) (na : Nat) (u : (Nat → Int32)) : Option (Int32) := (fL_above p1 p2 p3 na u).bind fun r1 => (fL_below p1 p2 p3 na u).bind fun r2 => gd (decide (¬ r2 = 0)) ((fL_root ((10000 * r1) / r2)).bind fun r3 => some r3)
set_option maxRecDepth 100000 in
set_option maxHeartbeats 4000000 in
theorem kL_hundredths (l : Launch) (g : kG) (a : Nat → Nat) (p1 : Int32) (p2 : Int32) (p3 : Int32) (na : Nat) (u : (Nat → Int32)) (o1 : Int32) (hm : fL_hundredths p1 p2 p3 na u = some o1) : KM l yL_hundredths wsL_hundredths rL_hundredths g [.ref (a 0), .int p1, .int p2, .int p3] (wR g a na u) (some (.int o1)) (wR g a na u) 0 0 := by
  refine KM.of (nL := 4) (by decide) rfl (Nat.le_of_ble_eq_true rfl) ?_
  intro p e s m args below meth c A ls C X hl
  have C : CT g p s m args meth c RL cL_hundredths 4 (some .int) wsL_hundredths A := C
  have hx := C.1
  have hb := C.2.1
  have hl : lv_has ls 4 [(0, .ref (a 0)), (1, .int p1), (2, .int p2), (3, .int p3)] := hl
  rw [fL_hundredths] at hm
  refine lv_ldc2 (v := 10000) hx hb C.2.2.2.2.1 (C.2.2.2.2.2.1 (.constantLong RL 53 10000) (by decide +kernel)) dL_hundredths_0 ?_
  refine lv_aload_n hx hb dL_hundredths_3 rfl (lv_at hl 0 rfl) ?_
  refine lv_iload_n hx hb dL_hundredths_4 rfl (lv_at hl 1 rfl) ?_
  refine lv_iload_n hx hb dL_hundredths_5 rfl (lv_at hl 2 rfl) ?_
  refine lv_iload_n hx hb dL_hundredths_6 rfl (lv_at hl 3 rfl) ?_
  obtain ⟨r1, hcl, hm⟩ := bnd hm
  refine kSF [0] [] C X (kL_above l g a p1 p2 p3 na u r1 hcl) (cw_L_hundredths_L_above_55 C) rfl (by decide) rfl (by decide) (by decide) (As := [.ref (a 0), .int p1, .int p2, .int p3]) rfl hl (rest := [.long 10000]) rfl (Nat.le_of_ble_eq_true rfl) (st2 := [.long r1, .long 10000]) rfl dL_hundredths_7 ⟨Nat.le_of_ble_eq_true rfl, Nat.le_of_ble_eq_true rfl⟩ [0] (by decide) (w3 := wR g a na u) rfl (fun H locs X => ?_)
  clear hcl
  refine lv_lmul hx hb dL_hundredths_10 ?_
  refine lv_aload_n hx hb dL_hundredths_11 rfl (lv_at hl 0 rfl) ?_
  refine lv_iload_n hx hb dL_hundredths_12 rfl (lv_at hl 1 rfl) ?_
  refine lv_iload_n hx hb dL_hundredths_13 rfl (lv_at hl 2 rfl) ?_
  refine lv_iload_n hx hb dL_hundredths_14 rfl (lv_at hl 3 rfl) ?_
  obtain ⟨r2, hcl, hm⟩ := bnd hm
  refine kSF [0] [] C X (kL_below l g a p1 p2 p3 na u r2 hcl) (cw_L_hundredths_L_below_58 C) rfl (by decide) rfl (by decide) (by decide) (As := [.ref (a 0), .int p1, .int p2, .int p3]) rfl hl (rest := [.long (10000 * r1)]) rfl (Nat.le_of_ble_eq_true rfl) (st2 := [.long r2, .long (10000 * r1)]) rfl dL_hundredths_15 ⟨Nat.le_of_ble_eq_true rfl, Nat.le_of_ble_eq_true rfl⟩ [0] (by decide) (w3 := wR g a na u) rfl (fun H locs X => ?_)
  clear hcl
  obtain ⟨hgv, hm⟩ := gd_t hm
  refine lv_ldiv hx hb dL_hundredths_18 (of_decide_eq_true hgv) ?_
  obtain ⟨r3, hcl, hm⟩ := bnd hm
  refine kS0 C X (kL_root l g ((10000 * r1) / r2) r3 hcl) (cw_L_hundredths_L_root_61 C) (As := [.long ((10000 * r1) / r2)]) rfl hl (rest := []) rfl (Nat.le_of_ble_eq_true rfl) (st2 := [.int r3]) rfl dL_hundredths_19 ⟨Nat.le_of_ble_eq_true rfl, Nat.le_of_ble_eq_true rfl⟩ (fun H locs X => ?_)
  clear hcl
  cases sm hm
  exact kiret C X dL_hundredths_22
-- L BrushStrokesLaw.isSharp([IIIII)Z
abbrev rL_isSharp : Room := { frames := 1, cells := 0, slots := 0, locals := 24 }
theorem cw_L_isSharp_L_product_42 {p : Program} {s : State} {m : MethodId} {args : Array Value} {meth : Method} {c : Code} {g : kG} {A : Nat → Prop} (C : CT g p s m args meth c RL cL_isSharp 9 (some .boolean) wsL_isSharp A) : CallB rL_isSharp s args RL 42 yL_product cL_product 5 (some .long) wsL_product rL_product 0 0 5 ∧ (Cond.static yL_product).before args s = true := cwS 5 C.2.2.2.2.2.1 gL_isSharp_L_product rfl rfl rfl (by decide +kernel) ⟨Nat.le_of_ble_eq_true rfl, Nat.le_of_ble_eq_true rfl⟩
noncomputable def fL_isSharp (p1 : Int32) (p2 : Int32) (p3 : Int32) (p4 : Int32) (na : Nat) (u : (Nat → Int32)) : Option (Int32) := (fL_product p1 p2 p2 p3 na u).bind fun r1 => (fL_product p1 p2 p1 p2 na u).bind fun r2 => (fL_product p2 p3 p2 p3 na u).bind fun r3 => ((if r1 < 0 then (some 1) else (if (r2 * r3) ≤ 0 then (some 0) else (if (((r2 * r3) * p4.toInt64) * p4.toInt64) ≤ ((10000 * r1) * r1) then (some 0) else (some 1)))) : Option (Int32)).bind fun v4 => gd (isb v4) (some v4)
set_option maxRecDepth 100000 in
set_option maxHeartbeats 4000000 in
theorem kL_isSharp (l : Launch) (g : kG) (a : Nat → Nat) (p1 : Int32) (p2 : Int32) (p3 : Int32) (p4 : Int32) (na : Nat) (u : (Nat → Int32)) (o1 : Int32) (hm : fL_isSharp p1 p2 p3 p4 na u = some o1) : KM l yL_isSharp wsL_isSharp rL_isSharp g [.ref (a 0), .int p1, .int p2, .int p3, .int p4] (wR g a na u) (some (.int o1)) (wR g a na u) 0 0 := by
  refine KM.of (nL := 9) (by decide) rfl (Nat.le_of_ble_eq_true rfl) ?_
  intro p e s m args below meth c A ls C X hl
  have C : CT g p s m args meth c RL cL_isSharp 9 (some .boolean) wsL_isSharp A := C
  have hx := C.1
  have hb := C.2.1
  have hl : lv_has ls 9 [(0, .ref (a 0)), (1, .int p1), (2, .int p2), (3, .int p3), (4, .int p4)] := hl
  rw [fL_isSharp] at hm
  refine lv_aload_n hx hb dL_isSharp_0 rfl (lv_at hl 0 rfl) ?_
  refine lv_iload_n hx hb dL_isSharp_1 rfl (lv_at hl 1 rfl) ?_
  refine lv_iload_n hx hb dL_isSharp_2 rfl (lv_at hl 2 rfl) ?_
  refine lv_iload_n hx hb dL_isSharp_3 rfl (lv_at hl 2 rfl) ?_
  refine lv_iload_n hx hb dL_isSharp_4 rfl (lv_at hl 3 rfl) ?_
  obtain ⟨r1, hcl, hm⟩ := bnd hm
  refine kSF [0] [] C X (kL_product l g a p1 p2 p2 p3 na u r1 hcl) (cw_L_isSharp_L_product_42 C) rfl (by decide) rfl (by decide) (by decide) (As := [.ref (a 0), .int p1, .int p2, .int p2, .int p3]) rfl hl (rest := []) rfl (Nat.le_of_ble_eq_true rfl) (st2 := [.long r1]) rfl dL_isSharp_5 ⟨Nat.le_of_ble_eq_true rfl, Nat.le_of_ble_eq_true rfl⟩ [0] (by decide) (w3 := wR g a na u) rfl (fun H locs X => ?_)
  clear hcl
  refine lv_lstore (lv' := [(5, .long r1), (0, .ref (a 0)), (1, .int p1), (2, .int p2), (3, .int p3), (4, .int p4)]) hx hb dL_isSharp_8 hl (by decide) rfl (fun ls hl => ?_)
  refine lv_aload_n hx hb dL_isSharp_10 rfl (lv_at hl 1 rfl) ?_
  refine lv_iload_n hx hb dL_isSharp_11 rfl (lv_at hl 2 rfl) ?_
  refine lv_iload_n hx hb dL_isSharp_12 rfl (lv_at hl 3 rfl) ?_
  refine lv_iload_n hx hb dL_isSharp_13 rfl (lv_at hl 2 rfl) ?_
  refine lv_iload_n hx hb dL_isSharp_14 rfl (lv_at hl 3 rfl) ?_
  obtain ⟨r2, hcl, hm⟩ := bnd hm
  refine kSF [0] [] C X (kL_product l g a p1 p2 p1 p2 na u r2 hcl) (cw_L_isSharp_L_product_42 C) rfl (by decide) rfl (by decide) (by decide) (As := [.ref (a 0), .int p1, .int p2, .int p1, .int p2]) rfl hl (rest := []) rfl (Nat.le_of_ble_eq_true rfl) (st2 := [.long r2]) rfl dL_isSharp_15 ⟨Nat.le_of_ble_eq_true rfl, Nat.le_of_ble_eq_true rfl⟩ [0] (by decide) (w3 := wR g a na u) rfl (fun H locs X => ?_)
  clear hcl
  refine lv_aload_n hx hb dL_isSharp_18 rfl (lv_at hl 1 rfl) ?_
  refine lv_iload_n hx hb dL_isSharp_19 rfl (lv_at hl 3 rfl) ?_
  refine lv_iload_n hx hb dL_isSharp_20 rfl (lv_at hl 4 rfl) ?_
  refine lv_iload_n hx hb dL_isSharp_21 rfl (lv_at hl 3 rfl) ?_
  refine lv_iload_n hx hb dL_isSharp_22 rfl (lv_at hl 4 rfl) ?_
  obtain ⟨r3, hcl, hm⟩ := bnd hm
  refine kSF [0] [] C X (kL_product l g a p2 p3 p2 p3 na u r3 hcl) (cw_L_isSharp_L_product_42 C) rfl (by decide) rfl (by decide) (by decide) (As := [.ref (a 0), .int p2, .int p3, .int p2, .int p3]) rfl hl (rest := [.long r2]) rfl (Nat.le_of_ble_eq_true rfl) (st2 := [.long r3, .long r2]) rfl dL_isSharp_23 ⟨Nat.le_of_ble_eq_true rfl, Nat.le_of_ble_eq_true rfl⟩ [0] (by decide) (w3 := wR g a na u) rfl (fun H locs X => ?_)
  clear hcl
  refine lv_lmul hx hb dL_isSharp_26 ?_
  refine lv_lstore (lv' := [(7, .long (r2 * r3)), (5, .long r1), (0, .ref (a 0)), (1, .int p1), (2, .int p2), (3, .int p3), (4, .int p4)]) hx hb dL_isSharp_27 hl (by decide) rfl (fun ls hl => ?_)
  refine lv_lload hx hb dL_isSharp_29 (lv_at hl 1 rfl) ?_
  refine lv_lconst (v := 0) hx hb dL_isSharp_31 (by decide) ?_
  obtain ⟨v4, hE, hm⟩ := bnd hm
  have K : ∀ (H : Heap) (locs : List Loc) (ls : Array Slot), ST g A s H locs (wR g a na u) → lv_has ls 9 [] → W p l e rL_isSharp s m args below meth c H locs 0 0 (kEnd g below args s (some (.int o1)) (wR g a na u) A 0 0) (F0 m 71 ls [.int v4]) := by
    intro H locs ls X hl
    clear hE
    obtain ⟨hgb, hm⟩ := gd_t hm
    cases sm hm
    exact kzret (isb_n hgb) C X dL_isSharp_71
  clear hm
  have hm := hE
  clear hE
  refine klcmp_lt (tgt := 66) hx hb dL_isSharp_32 dL_isSharp_33 (by decide) (fun hc => ?_) (fun hc => ?_)
  · have hm := ifp hc hm
    refine lv_iconst (v := 1) hx hb dL_isSharp_66 (by decide) ?_
    refine lv_goto (tgt := 71) hx hb dL_isSharp_67 (by decide) ?_
    cases sm hm
    exact K _ _ _ X (lv_sub hl [] rfl)
  · have hm := ifn hc hm
    refine lv_lload hx hb dL_isSharp_36 (lv_at hl 0 rfl) ?_
    refine lv_lconst (v := 0) hx hb dL_isSharp_38 (by decide) ?_
    refine klcmp_le (tgt := 70) hx hb dL_isSharp_39 dL_isSharp_40 (by decide) (fun hc => ?_) (fun hc => ?_)
    · have hm := ifp hc hm
      refine lv_iconst (v := 0) hx hb dL_isSharp_70 (by decide) ?_
      cases sm hm
      exact K _ _ _ X (lv_sub hl [] rfl)
    · have hm := ifn hc hm
      refine lv_ldc2 (v := 10000) hx hb C.2.2.2.2.1 (C.2.2.2.2.2.1 (.constantLong RL 53 10000) (by decide +kernel)) dL_isSharp_43 ?_
      refine lv_lload hx hb dL_isSharp_46 (lv_at hl 1 rfl) ?_
      refine lv_lmul hx hb dL_isSharp_48 ?_
      refine lv_lload hx hb dL_isSharp_49 (lv_at hl 1 rfl) ?_
      refine lv_lmul hx hb dL_isSharp_51 ?_
      refine lv_lload hx hb dL_isSharp_52 (lv_at hl 0 rfl) ?_
      refine lv_iload hx hb dL_isSharp_54 (lv_at hl 6 rfl) ?_
      refine lv_i2l (v := p4.toInt64) hx hb dL_isSharp_56 rfl ?_
      refine lv_lmul hx hb dL_isSharp_57 ?_
      refine lv_iload hx hb dL_isSharp_58 (lv_at hl 6 rfl) ?_
      refine lv_i2l (v := p4.toInt64) hx hb dL_isSharp_60 rfl ?_
      refine lv_lmul hx hb dL_isSharp_61 ?_
      refine klcmp_ge (tgt := 70) hx hb dL_isSharp_62 dL_isSharp_63 (by decide) (fun hc => ?_) (fun hc => ?_)
      · have hm := ifp hc hm
        refine lv_iconst (v := 0) hx hb dL_isSharp_70 (by decide) ?_
        cases sm hm
        exact K _ _ _ X (lv_sub hl [] rfl)
      · have hm := ifn hc hm
        refine lv_iconst (v := 1) hx hb dL_isSharp_66 (by decide) ?_
        refine lv_goto (tgt := 71) hx hb dL_isSharp_67 (by decide) ?_
        cases sm hm
        exact K _ _ _ X (lv_sub hl [] rfl)
-- L BrushStrokesLaw.fixed([IIIII)I
abbrev rL_fixed : Room := { frames := 2, cells := 0, slots := 0, locals := 52 }
theorem cw_L_fixed_L_isSharp_65 {p : Program} {s : State} {m : MethodId} {args : Array Value} {meth : Method} {c : Code} {g : kG} {A : Nat → Prop} (C : CT g p s m args meth c RL cL_fixed 6 (some .int) wsL_fixed A) : CallB rL_fixed s args RL 65 yL_isSharp cL_isSharp 9 (some .boolean) wsL_isSharp rL_isSharp 0 0 5 ∧ (Cond.static yL_isSharp).before args s = true := cwS 5 C.2.2.2.2.2.1 gL_fixed_L_isSharp rfl rfl rfl (by decide +kernel) ⟨Nat.le_of_ble_eq_true rfl, Nat.le_of_ble_eq_true rfl⟩
noncomputable def fL_fixed (p1 : Int32) (p2 : Int32) (p3 : Int32) (p4 : Int32) (na : Nat) (u : (Nat → Int32)) : Option (Int32) := if p2 = 0 then (some 1) else (if p2 = (p1 - 1) then (some 1) else (gd (inb ((3 * p2) - 1) na) (gd (inb ((3 * p2) + 5) na) (((if (u ((3 * p2) + 5).toNatClampNeg) ≤ (u ((3 * p2) - 1).toNatClampNeg) then (gd (inb ((3 * p2) + 5) na) (some (u ((3 * p2) + 5).toNatClampNeg))) else (gd (inb ((3 * p2) - 1) na) (some (u ((3 * p2) - 1).toNatClampNeg)))) : Option (Int32)).bind fun v1 => (fL_isSharp (p2 - 1) p2 (p2 + 1) p3 na u).bind fun r2 => ((if r2 = 0 then (some 0) else (some 2)) : Option (Int32)).bind fun v3 => gd (inb ((3 * p2) + 2) na) (((if v1 < ((u ((3 * p2) + 2).toNatClampNeg) + p4) then (some 0) else (some 4)) : Option (Int32)).bind fun v4 => some (v3 + v4))))))
set_option maxRecDepth 100000 in
set_option maxHeartbeats 4000000 in
theorem kL_fixed (l : Launch) (g : kG) (a : Nat → Nat) (p1 : Int32) (p2 : Int32) (p3 : Int32) (p4 : Int32) (na : Nat) (u : (Nat → Int32)) (o1 : Int32) (hm : fL_fixed p1 p2 p3 p4 na u = some o1) : KM l yL_fixed wsL_fixed rL_fixed g [.ref (a 0), .int p1, .int p2, .int p3, .int p4] (wR g a na u) (some (.int o1)) (wR g a na u) 0 0 := by
  refine KM.of (nL := 6) (by decide) rfl (Nat.le_of_ble_eq_true rfl) ?_
  intro p e s m args below meth c A ls C X hl
  have C : CT g p s m args meth c RL cL_fixed 6 (some .int) wsL_fixed A := C
  have hx := C.1
  have hb := C.2.1
  have hl : lv_has ls 6 [(0, .ref (a 0)), (1, .int p1), (2, .int p2), (3, .int p3), (4, .int p4)] := hl
  rw [fL_fixed] at hm
  refine lv_iload_n hx hb dL_fixed_0 rfl (lv_at hl 2 rfl) ?_
  refine lv_if_eq (tgt := 11) hx hb dL_fixed_1 (by decide) (fun hc => ?_) (fun hc => ?_)
  · have hm := ifp hc hm
    refine lv_iconst (v := 1) hx hb dL_fixed_11 (by decide) ?_
    cases sm hm
    exact kiret C X dL_fixed_12
  · have hm := ifn hc hm
    refine lv_iload_n hx hb dL_fixed_4 rfl (lv_at hl 2 rfl) ?_
    refine lv_iload_n hx hb dL_fixed_5 rfl (lv_at hl 1 rfl) ?_
    refine lv_iconst (v := 1) hx hb dL_fixed_6 (by decide) ?_
    refine lv_isub hx hb dL_fixed_7 ?_
    refine lv_icmp_ne (tgt := 13) hx hb dL_fixed_8 (by decide) (fun hc => ?_) (fun hc => ?_)
    · have hm := ifn hc hm
      refine lv_aload_n hx hb dL_fixed_13 rfl (lv_at hl 0 rfl) ?_
      refine lv_iconst (v := 3) hx hb dL_fixed_14 (by decide) ?_
      refine lv_iload_n hx hb dL_fixed_15 rfl (lv_at hl 2 rfl) ?_
      refine lv_imul hx hb dL_fixed_16 ?_
      refine lv_iconst (v := 1) hx hb dL_fixed_17 (by decide) ?_
      refine lv_isub hx hb dL_fixed_18 ?_
      obtain ⟨hgi, hm⟩ := gd_t hm
      refine kiald C X 0 rfl hgi dL_fixed_19 ?_
      refine lv_aload_n hx hb dL_fixed_20 rfl (lv_at hl 0 rfl) ?_
      refine lv_iconst (v := 3) hx hb dL_fixed_21 (by decide) ?_
      refine lv_iload_n hx hb dL_fixed_22 rfl (lv_at hl 2 rfl) ?_
      refine lv_imul hx hb dL_fixed_23 ?_
      refine lv_iconst (v := 5) hx hb dL_fixed_24 (by decide) ?_
      refine lv_iadd hx hb dL_fixed_25 ?_
      obtain ⟨hgi, hm⟩ := gd_t hm
      refine kiald C X 0 rfl hgi dL_fixed_26 ?_
      obtain ⟨v1, hE, hm⟩ := bnd hm
      have K : ∀ (H : Heap) (locs : List Loc) (ls : Array Slot), ST g A s H locs (wR g a na u) → lv_has ls 6 [(0, .ref (a 0)), (2, .int p2), (3, .int p3), (4, .int p4)] → W p l e rL_fixed s m args below meth c H locs 0 0 (kEnd g below args s (some (.int o1)) (wR g a na u) A 0 0) (F0 m 47 ls [.int v1]) := by
        intro H locs ls X hl
        clear hE
        refine lv_istore (lv' := [(5, .int v1), (0, .ref (a 0)), (2, .int p2), (3, .int p3), (4, .int p4)]) hx hb dL_fixed_47 hl (by decide) rfl (fun ls hl => ?_)
        refine lv_aload_n hx hb dL_fixed_49 rfl (lv_at hl 1 rfl) ?_
        refine lv_iload_n hx hb dL_fixed_50 rfl (lv_at hl 2 rfl) ?_
        refine lv_iconst (v := 1) hx hb dL_fixed_51 (by decide) ?_
        refine lv_isub hx hb dL_fixed_52 ?_
        refine lv_iload_n hx hb dL_fixed_53 rfl (lv_at hl 2 rfl) ?_
        refine lv_iload_n hx hb dL_fixed_54 rfl (lv_at hl 2 rfl) ?_
        refine lv_iconst (v := 1) hx hb dL_fixed_55 (by decide) ?_
        refine lv_iadd hx hb dL_fixed_56 ?_
        refine lv_iload_n hx hb dL_fixed_57 rfl (lv_at hl 3 rfl) ?_
        obtain ⟨r2, hcl, hm⟩ := bnd hm
        refine kSF [0] [] C X (kL_isSharp l g a (p2 - 1) p2 (p2 + 1) p3 na u r2 hcl) (cw_L_fixed_L_isSharp_65 C) rfl (by decide) rfl (by decide) (by decide) (As := [.ref (a 0), .int (p2 - 1), .int p2, .int (p2 + 1), .int p3]) rfl hl (rest := []) rfl (Nat.le_of_ble_eq_true rfl) (st2 := [.int r2]) rfl dL_fixed_58 ⟨Nat.le_of_ble_eq_true rfl, Nat.le_of_ble_eq_true rfl⟩ [0] (by decide) (w3 := wR g a na u) rfl (fun H locs X => ?_)
        clear hcl
        obtain ⟨v3, hE, hm⟩ := bnd hm
        have K : ∀ (H : Heap) (locs : List Loc) (ls : Array Slot), ST g A s H locs (wR g a na u) → lv_has ls 6 [(0, .ref (a 0)), (2, .int p2), (4, .int p4), (5, .int v1)] → W p l e rL_fixed s m args below meth c H locs 0 0 (kEnd g below args s (some (.int o1)) (wR g a na u) A 0 0) (F0 m 69 ls [.int v3]) := by
          intro H locs ls X hl
          clear hE
          refine lv_aload_n hx hb dL_fixed_69 rfl (lv_at hl 0 rfl) ?_
          refine lv_iconst (v := 3) hx hb dL_fixed_70 (by decide) ?_
          refine lv_iload_n hx hb dL_fixed_71 rfl (lv_at hl 1 rfl) ?_
          refine lv_imul hx hb dL_fixed_72 ?_
          refine lv_iconst (v := 2) hx hb dL_fixed_73 (by decide) ?_
          refine lv_iadd hx hb dL_fixed_74 ?_
          obtain ⟨hgi, hm⟩ := gd_t hm
          refine kiald C X 0 rfl hgi dL_fixed_75 ?_
          refine lv_iload hx hb dL_fixed_76 (lv_at hl 2 rfl) ?_
          refine lv_iadd hx hb dL_fixed_78 ?_
          refine lv_iload hx hb dL_fixed_79 (lv_at hl 3 rfl) ?_
          obtain ⟨v4, hE, hm⟩ := bnd hm
          have K : ∀ (H : Heap) (locs : List Loc) (ls : Array Slot), ST g A s H locs (wR g a na u) → lv_has ls 6 [] → W p l e rL_fixed s m args below meth c H locs 0 0 (kEnd g below args s (some (.int o1)) (wR g a na u) A 0 0) (F0 m 89 ls [.int v4, .int v3]) := by
            intro H locs ls X hl
            clear hE
            refine lv_iadd hx hb dL_fixed_89 ?_
            cases sm hm
            exact kiret C X dL_fixed_90
          clear hm
          have hm := hE
          clear hE
          refine lv_icmp_gt (tgt := 88) hx hb dL_fixed_81 (by decide) (fun hc => ?_) (fun hc => ?_)
          · have hm := ifp hc hm
            refine lv_iconst (v := 0) hx hb dL_fixed_88 (by decide) ?_
            cases sm hm
            exact K _ _ _ X (lv_sub hl [] rfl)
          · have hm := ifn hc hm
            refine lv_iconst (v := 4) hx hb dL_fixed_84 (by decide) ?_
            refine lv_goto (tgt := 89) hx hb dL_fixed_85 (by decide) ?_
            cases sm hm
            exact K _ _ _ X (lv_sub hl [] rfl)
        clear hm
        have hm := hE
        clear hE
        refine lv_if_eq (tgt := 68) hx hb dL_fixed_61 (by decide) (fun hc => ?_) (fun hc => ?_)
        · have hm := ifp hc hm
          refine lv_iconst (v := 0) hx hb dL_fixed_68 (by decide) ?_
          cases sm hm
          exact K _ _ _ X (lv_sub hl [1, 2, 4, 0] rfl)
        · have hm := ifn hc hm
          refine lv_iconst (v := 2) hx hb dL_fixed_64 (by decide) ?_
          refine lv_goto (tgt := 69) hx hb dL_fixed_65 (by decide) ?_
          cases sm hm
          exact K _ _ _ X (lv_sub hl [1, 2, 4, 0] rfl)
      clear hm
      have hm := hE
      clear hE
      refine lv_icmp_ge (tgt := 40) hx hb dL_fixed_27 (by decide) (fun hc => ?_) (fun hc => ?_)
      · have hm := ifp hc hm
        refine lv_aload_n hx hb dL_fixed_40 rfl (lv_at hl 0 rfl) ?_
        refine lv_iconst (v := 3) hx hb dL_fixed_41 (by decide) ?_
        refine lv_iload_n hx hb dL_fixed_42 rfl (lv_at hl 2 rfl) ?_
        refine lv_imul hx hb dL_fixed_43 ?_
        refine lv_iconst (v := 5) hx hb dL_fixed_44 (by decide) ?_
        refine lv_iadd hx hb dL_fixed_45 ?_
        obtain ⟨hgi, hm⟩ := gd_t hm
        refine kiald C X 0 rfl hgi dL_fixed_46 ?_
        cases sm hm
        exact K _ _ _ X (lv_sub hl [0, 2, 3, 4] rfl)
      · have hm := ifn hc hm
        refine lv_aload_n hx hb dL_fixed_30 rfl (lv_at hl 0 rfl) ?_
        refine lv_iconst (v := 3) hx hb dL_fixed_31 (by decide) ?_
        refine lv_iload_n hx hb dL_fixed_32 rfl (lv_at hl 2 rfl) ?_
        refine lv_imul hx hb dL_fixed_33 ?_
        refine lv_iconst (v := 1) hx hb dL_fixed_34 (by decide) ?_
        refine lv_isub hx hb dL_fixed_35 ?_
        obtain ⟨hgi, hm⟩ := gd_t hm
        refine kiald C X 0 rfl hgi dL_fixed_36 ?_
        refine lv_goto (tgt := 47) hx hb dL_fixed_37 (by decide) ?_
        cases sm hm
        exact K _ _ _ X (lv_sub hl [0, 2, 3, 4] rfl)
    · have hm := ifp hc hm
      refine lv_iconst (v := 1) hx hb dL_fixed_11 (by decide) ?_
      cases sm hm
      exact kiret C X dL_fixed_12
-- L BrushStrokesLaw.next(II)I
abbrev rL_next : Room := { frames := 0, cells := 0, slots := 0, locals := 0 }
noncomputable def bL_next_4 (c1 : Int32) (x2 : Int32) : Option ((Int32) ⊕ (Int32)) := if ((c1 >>> (x2 &&& 31)) &&& 1) = 0 then (some (.inl (x2 + 1))) else (some (.inr x2))
noncomputable def lL_next_4 (c1 : Int32) (x2 : Int32) : Option (Int32) := lp (bL_next_4 c1) x2
theorem lL_next_4_eq (c1 : Int32) (x2 : Int32) : lL_next_4 c1 x2 = (if ((c1 >>> (x2 &&& 31)) &&& 1) = 0 then (some (.inl (x2 + 1))) else (some (.inr x2))).bind fun r => Sum.elim (fun z => lL_next_4 c1 z) (fun r => some r) r := lp_eq (bL_next_4 c1) x2
set_option maxRecDepth 100000 in
set_option maxHeartbeats 4000000 in
theorem tL_next_4 {p : Program} {l : Launch} {e : Env} {s : State} {m : MethodId} {args : Array Value} {below : List Frame} {meth : Method} {c : Code} {g : kG} {A : Nat → Prop} {Q : State → Prop} (C : CT g p s m args meth c RL cL_next 3 (some .int) wsL_next A) (c1 : Int32) (y3 : Int32) (kk : ∀ (H : Heap) (locs : List Loc) (ls : Array Slot), ST g A s H locs ([]) → lv_has ls 3 [(2, .int y3)] → W p l e rL_next s m args below meth c H locs 0 0 Q (F0 m 18 ls [])) : ∀ (n : Nat) (x2 : Int32), whl (bL_next_4 c1) n x2 = some y3 → ∀ (H : Heap) (locs : List Loc) (ls : Array Slot), ST g A s H locs ([]) → lv_has ls 3 [(0, .int c1), (2, .int x2)] → W p l e rL_next s m args below meth c H locs 0 0 Q (F0 m 4 ls []) := by
  have hx := C.1
  have hb := C.2.1
  intro n
  induction n with
  | zero =>
    intro x2 hm
    cases hm
  | succ n ih =>
    intro x2 hm H locs ls X hl
    rw [whl] at hm
    obtain ⟨q, hq, hm2⟩ := bnd hm
    clear hm
    have hm := hq
    clear hq
    rw [bL_next_4] at hm
    refine lv_iload_n hx hb dL_next_4 rfl (lv_at hl 0 rfl) ?_
    refine lv_iload_n hx hb dL_next_5 rfl (lv_at hl 1 rfl) ?_
    refine lv_ishr hx hb dL_next_6 ?_
    refine lv_iconst (v := 1) hx hb dL_next_7 (by decide) ?_
    refine lv_iand hx hb dL_next_8 ?_
    refine lv_if_ne (tgt := 18) hx hb dL_next_9 (by decide) (fun hc => ?_) (fun hc => ?_)
    · have hm := ifn hc hm
      cases sm hm
      cases sm hm2
      exact kk _ _ _ X (lv_sub hl [1] rfl)
    · have hm := ifp hc hm
      refine lv_iinc (v := x2 + 1) (lv' := [(2, .int (x2 + 1)), (0, .int c1)]) hx hb dL_next_12 hl (k := 1) rfl rfl (by decide) rfl (fun ls hl => ?_)
      refine lv_goto (tgt := 4) hx hb dL_next_15 (by decide) ?_
      cases sm hm
      exact ih _ hm2 _ _ _ X (lv_sub hl [1, 0] rfl)
noncomputable def fL_next (p1 : Int32) (p2 : Int32) : Option (Int32) := (lL_next_4 p1 (p2 + 1)).bind fun y4 => some y4
set_option maxRecDepth 100000 in
set_option maxHeartbeats 4000000 in
theorem kL_next (l : Launch) (g : kG) (p1 : Int32) (p2 : Int32) (o1 : Int32) (hm : fL_next p1 p2 = some o1) : KM l yL_next wsL_next rL_next g [.int p1, .int p2] ([]) (some (.int o1)) ([]) 0 0 := by
  refine KM.of (nL := 3) (by decide) rfl (Nat.le_of_ble_eq_true rfl) ?_
  intro p e s m args below meth c A ls C X hl
  have C : CT g p s m args meth c RL cL_next 3 (some .int) wsL_next A := C
  have hx := C.1
  have hb := C.2.1
  have hl : lv_has ls 3 [(0, .int p1), (1, .int p2)] := hl
  rw [fL_next] at hm
  refine lv_iload_n hx hb dL_next_0 rfl (lv_at hl 1 rfl) ?_
  refine lv_iconst (v := 1) hx hb dL_next_1 (by decide) ?_
  refine lv_iadd hx hb dL_next_2 ?_
  refine lv_istore_n (lv' := [(2, .int (p2 + 1)), (0, .int p1), (1, .int p2)]) hx hb dL_next_3 rfl hl (by decide) rfl (fun ls hl => ?_)
  obtain ⟨y4, hL, hm⟩ := bnd hm
  obtain ⟨nn, hn⟩ := lp_run hL
  refine tL_next_4 C p1 y4 (fun H locs ls X hl => ?_) nn _ hn _ _ _ X (lv_sub hl [1, 0] rfl)
  clear hL hn
  refine lv_iload_n hx hb dL_next_18 rfl (lv_at hl 0 rfl) ?_
  cases sm hm
  exact kiret C X dL_next_19
-- L BrushStrokesLaw.last(II)I
abbrev rL_last : Room := { frames := 0, cells := 0, slots := 0, locals := 0 }
noncomputable def bL_last_4 (c1 : Int32) (x2 : Int32) : Option ((Int32) ⊕ (Int32)) := if ((c1 >>> (x2 &&& 31)) &&& 1) = 0 then (some (.inl (x2 + (-1)))) else (some (.inr x2))
noncomputable def lL_last_4 (c1 : Int32) (x2 : Int32) : Option (Int32) := lp (bL_last_4 c1) x2
theorem lL_last_4_eq (c1 : Int32) (x2 : Int32) : lL_last_4 c1 x2 = (if ((c1 >>> (x2 &&& 31)) &&& 1) = 0 then (some (.inl (x2 + (-1)))) else (some (.inr x2))).bind fun r => Sum.elim (fun z => lL_last_4 c1 z) (fun r => some r) r := lp_eq (bL_last_4 c1) x2
set_option maxRecDepth 100000 in
set_option maxHeartbeats 4000000 in
theorem tL_last_4 {p : Program} {l : Launch} {e : Env} {s : State} {m : MethodId} {args : Array Value} {below : List Frame} {meth : Method} {c : Code} {g : kG} {A : Nat → Prop} {Q : State → Prop} (C : CT g p s m args meth c RL cL_last 3 (some .int) wsL_last A) (c1 : Int32) (y3 : Int32) (kk : ∀ (H : Heap) (locs : List Loc) (ls : Array Slot), ST g A s H locs ([]) → lv_has ls 3 [(2, .int y3)] → W p l e rL_last s m args below meth c H locs 0 0 Q (F0 m 18 ls [])) : ∀ (n : Nat) (x2 : Int32), whl (bL_last_4 c1) n x2 = some y3 → ∀ (H : Heap) (locs : List Loc) (ls : Array Slot), ST g A s H locs ([]) → lv_has ls 3 [(0, .int c1), (2, .int x2)] → W p l e rL_last s m args below meth c H locs 0 0 Q (F0 m 4 ls []) := by
  have hx := C.1
  have hb := C.2.1
  intro n
  induction n with
  | zero =>
    intro x2 hm
    cases hm
  | succ n ih =>
    intro x2 hm H locs ls X hl
    rw [whl] at hm
    obtain ⟨q, hq, hm2⟩ := bnd hm
    clear hm
    have hm := hq
    clear hq
    rw [bL_last_4] at hm
    refine lv_iload_n hx hb dL_last_4 rfl (lv_at hl 0 rfl) ?_
    refine lv_iload_n hx hb dL_last_5 rfl (lv_at hl 1 rfl) ?_
    refine lv_ishr hx hb dL_last_6 ?_
    refine lv_iconst (v := 1) hx hb dL_last_7 (by decide) ?_
    refine lv_iand hx hb dL_last_8 ?_
    refine lv_if_ne (tgt := 18) hx hb dL_last_9 (by decide) (fun hc => ?_) (fun hc => ?_)
    · have hm := ifn hc hm
      cases sm hm
      cases sm hm2
      exact kk _ _ _ X (lv_sub hl [1] rfl)
    · have hm := ifp hc hm
      refine lv_iinc (v := x2 + (-1)) (lv' := [(2, .int (x2 + (-1))), (0, .int c1)]) hx hb dL_last_12 hl (k := 1) rfl rfl (by decide) rfl (fun ls hl => ?_)
      refine lv_goto (tgt := 4) hx hb dL_last_15 (by decide) ?_
      cases sm hm
      exact ih _ hm2 _ _ _ X (lv_sub hl [1, 0] rfl)
noncomputable def fL_last (p1 : Int32) (p2 : Int32) : Option (Int32) := (lL_last_4 p1 (p2 - 1)).bind fun y4 => some y4
set_option maxRecDepth 100000 in
set_option maxHeartbeats 4000000 in
theorem kL_last (l : Launch) (g : kG) (p1 : Int32) (p2 : Int32) (o1 : Int32) (hm : fL_last p1 p2 = some o1) : KM l yL_last wsL_last rL_last g [.int p1, .int p2] ([]) (some (.int o1)) ([]) 0 0 := by
  refine KM.of (nL := 3) (by decide) rfl (Nat.le_of_ble_eq_true rfl) ?_
  intro p e s m args below meth c A ls C X hl
  have C : CT g p s m args meth c RL cL_last 3 (some .int) wsL_last A := C
  have hx := C.1
  have hb := C.2.1
  have hl : lv_has ls 3 [(0, .int p1), (1, .int p2)] := hl
  rw [fL_last] at hm
  refine lv_iload_n hx hb dL_last_0 rfl (lv_at hl 1 rfl) ?_
  refine lv_iconst (v := 1) hx hb dL_last_1 (by decide) ?_
  refine lv_isub hx hb dL_last_2 ?_
  refine lv_istore_n (lv' := [(2, .int (p2 - 1)), (0, .int p1), (1, .int p2)]) hx hb dL_last_3 rfl hl (by decide) rfl (fun ls hl => ?_)
  obtain ⟨y4, hL, hm⟩ := bnd hm
  obtain ⟨nn, hn⟩ := lp_run hL
  refine tL_last_4 C p1 y4 (fun H locs ls X hl => ?_) nn _ hn _ _ _ X (lv_sub hl [1, 0] rfl)
  clear hL hn
  refine lv_iload_n hx hb dL_last_18 rfl (lv_at hl 0 rfl) ?_
  cases sm hm
  exact kiret C X dL_last_19
-- L BrushStrokesLaw.ones(I)I
abbrev rL_ones : Room := { frames := 0, cells := 0, slots := 0, locals := 0 }
noncomputable def bL_ones_4 : Int32 × Int32 → Option ((Int32 × Int32) ⊕ (Int32))
  | (x1, x2) => if x2 ≤ 0 then (some (.inr x1)) else (some (.inl (x1 + 1, x2 &&& (x2 - 1))))
noncomputable def lL_ones_4 (x1 : Int32) (x2 : Int32) : Option (Int32) := lp bL_ones_4 (x1, x2)
theorem lL_ones_4_eq (x1 : Int32) (x2 : Int32) : lL_ones_4 x1 x2 = (if x2 ≤ 0 then (some (.inr x1)) else (some (.inl (x1 + 1, x2 &&& (x2 - 1))))).bind fun r => Sum.elim (fun z => lL_ones_4 z.1 z.2) (fun r => some r) r := lp_eq bL_ones_4 (x1, x2)
set_option maxRecDepth 100000 in
set_option maxHeartbeats 4000000 in
theorem tL_ones_4 {p : Program} {l : Launch} {e : Env} {s : State} {m : MethodId} {args : Array Value} {below : List Frame} {meth : Method} {c : Code} {g : kG} {A : Nat → Prop} {Q : State → Prop} (C : CT g p s m args meth c RL cL_ones 3 (some .int) wsL_ones A) (y3 : Int32) (kk : ∀ (H : Heap) (locs : List Loc) (ls : Array Slot), ST g A s H locs ([]) → lv_has ls 3 [(1, .int y3)] → W p l e rL_ones s m args below meth c H locs 0 0 Q (F0 m 20 ls [])) : ∀ (n : Nat) (x1 : Int32) (x2 : Int32), whl bL_ones_4 n (x1, x2) = some y3 → ∀ (H : Heap) (locs : List Loc) (ls : Array Slot), ST g A s H locs ([]) → lv_has ls 3 [(1, .int x1), (2, .int x2)] → W p l e rL_ones s m args below meth c H locs 0 0 Q (F0 m 4 ls []) := by
  have hx := C.1
  have hb := C.2.1
  intro n
  induction n with
  | zero =>
    intro x1 x2 hm
    cases hm
  | succ n ih =>
    intro x1 x2 hm H locs ls X hl
    rw [whl] at hm
    obtain ⟨q, hq, hm2⟩ := bnd hm
    clear hm
    have hm := hq
    clear hq
    rw [bL_ones_4] at hm
    refine lv_iload_n hx hb dL_ones_4 rfl (lv_at hl 1 rfl) ?_
    refine lv_if_le (tgt := 20) hx hb dL_ones_5 (by decide) (fun hc => ?_) (fun hc => ?_)
    · have hm := ifp hc hm
      cases sm hm
      cases sm hm2
      exact kk _ _ _ X (lv_sub hl [0] rfl)
    · have hm := ifn hc hm
      refine lv_iinc (v := x1 + 1) (lv' := [(1, .int (x1 + 1)), (2, .int x2)]) hx hb dL_ones_8 hl (k := 0) rfl rfl (by decide) rfl (fun ls hl => ?_)
      refine lv_iload_n hx hb dL_ones_11 rfl (lv_at hl 1 rfl) ?_
      refine lv_iload_n hx hb dL_ones_12 rfl (lv_at hl 1 rfl) ?_
      refine lv_iconst (v := 1) hx hb dL_ones_13 (by decide) ?_
      refine lv_isub hx hb dL_ones_14 ?_
      refine lv_iand hx hb dL_ones_15 ?_
      refine lv_istore_n (lv' := [(2, .int (x2 &&& (x2 - 1))), (1, .int (x1 + 1))]) hx hb dL_ones_16 rfl hl (by decide) rfl (fun ls hl => ?_)
      refine lv_goto (tgt := 4) hx hb dL_ones_17 (by decide) ?_
      cases sm hm
      exact ih _ _ hm2 _ _ _ X (lv_sub hl [1, 0] rfl)
noncomputable def fL_ones (p1 : Int32) : Option (Int32) := (lL_ones_4 0 p1).bind fun y4 => some y4
set_option maxRecDepth 100000 in
set_option maxHeartbeats 4000000 in
theorem kL_ones (l : Launch) (g : kG) (p1 : Int32) (o1 : Int32) (hm : fL_ones p1 = some o1) : KM l yL_ones wsL_ones rL_ones g [.int p1] ([]) (some (.int o1)) ([]) 0 0 := by
  refine KM.of (nL := 3) (by decide) rfl (Nat.le_of_ble_eq_true rfl) ?_
  intro p e s m args below meth c A ls C X hl
  have C : CT g p s m args meth c RL cL_ones 3 (some .int) wsL_ones A := C
  have hx := C.1
  have hb := C.2.1
  have hl : lv_has ls 3 [(0, .int p1)] := hl
  rw [fL_ones] at hm
  refine lv_iconst (v := 0) hx hb dL_ones_0 (by decide) ?_
  refine lv_istore_n (lv' := [(1, .int 0), (0, .int p1)]) hx hb dL_ones_1 rfl hl (by decide) rfl (fun ls hl => ?_)
  refine lv_iload_n hx hb dL_ones_2 rfl (lv_at hl 1 rfl) ?_
  refine lv_istore_n (lv' := [(2, .int p1), (1, .int 0), (0, .int p1)]) hx hb dL_ones_3 rfl hl (by decide) rfl (fun ls hl => ?_)
  obtain ⟨y4, hL, hm⟩ := bnd hm
  obtain ⟨nn, hn⟩ := lp_run hL
  refine tL_ones_4 C  y4 (fun H locs ls X hl => ?_) nn _ _ hn _ _ _ X (lv_sub hl [1, 0] rfl)
  clear hL hn
  refine lv_iload_n hx hb dL_ones_20 rfl (lv_at hl 0 rfl) ?_
  cases sm hm
  exact kiret C X dL_ones_21
-- L BrushStrokesLaw.isPair([IIIII)Z
abbrev rL_isPair : Room := { frames := 1, cells := 0, slots := 0, locals := 23 }
theorem cw_L_isPair_L_area_48 {p : Program} {s : State} {m : MethodId} {args : Array Value} {meth : Method} {c : Code} {g : kG} {A : Nat → Prop} (C : CT g p s m args meth c RL cL_isPair 13 (some .boolean) wsL_isPair A) : CallB rL_isPair s args RL 48 yL_area cL_area 4 (some .long) wsL_area rL_area 0 0 4 ∧ (Cond.static yL_area).before args s = true := cwS 4 C.2.2.2.2.2.1 gL_isPair_L_area rfl rfl rfl (by decide +kernel) ⟨Nat.le_of_ble_eq_true rfl, Nat.le_of_ble_eq_true rfl⟩
noncomputable def fL_isPair (p1 : Int32) (p2 : Int32) (p3 : Int32) (p4 : Int32) (na : Nat) (u : (Nat → Int32)) : Option (Int32) := (fL_area p1 p2 p3 na u).bind fun r1 => (fL_area p1 p2 p4 na u).bind fun r2 => (fL_area p3 p4 p1 na u).bind fun r3 => (fL_area p3 p4 p2 na u).bind fun r4 => ((if r1 ≤ 0 then (if 0 ≤ r1 then (some 0) else (if r2 ≤ 0 then (some 0) else (if r3 ≤ 0 then (if 0 ≤ r3 then (some 0) else (if r4 ≤ 0 then (some 0) else (some 1))) else (if r4 < 0 then (some 1) else (if 0 ≤ r3 then (some 0) else (if r4 ≤ 0 then (some 0) else (some 1))))))) else (if r2 < 0 then (if r3 ≤ 0 then (if 0 ≤ r3 then (some 0) else (if r4 ≤ 0 then (some 0) else (some 1))) else (if r4 < 0 then (some 1) else (if 0 ≤ r3 then (some 0) else (if r4 ≤ 0 then (some 0) else (some 1))))) else (if 0 ≤ r1 then (some 0) else (if r2 ≤ 0 then (some 0) else (if r3 ≤ 0 then (if 0 ≤ r3 then (some 0) else (if r4 ≤ 0 then (some 0) else (some 1))) else (if r4 < 0 then (some 1) else (if 0 ≤ r3 then (some 0) else (if r4 ≤ 0 then (some 0) else (some 1))))))))) : Option (Int32)).bind fun v5 => gd (isb v5) (some v5)
set_option maxRecDepth 100000 in
set_option maxHeartbeats 4000000 in
theorem kL_isPair (l : Launch) (g : kG) (a : Nat → Nat) (p1 : Int32) (p2 : Int32) (p3 : Int32) (p4 : Int32) (na : Nat) (u : (Nat → Int32)) (o1 : Int32) (hm : fL_isPair p1 p2 p3 p4 na u = some o1) : KM l yL_isPair wsL_isPair rL_isPair g [.ref (a 0), .int p1, .int p2, .int p3, .int p4] (wR g a na u) (some (.int o1)) (wR g a na u) 0 0 := by
  refine KM.of (nL := 13) (by decide) rfl (Nat.le_of_ble_eq_true rfl) ?_
  intro p e s m args below meth c A ls C X hl
  have C : CT g p s m args meth c RL cL_isPair 13 (some .boolean) wsL_isPair A := C
  have hx := C.1
  have hb := C.2.1
  have hl : lv_has ls 13 [(0, .ref (a 0)), (1, .int p1), (2, .int p2), (3, .int p3), (4, .int p4)] := hl
  rw [fL_isPair] at hm
  refine lv_aload_n hx hb dL_isPair_0 rfl (lv_at hl 0 rfl) ?_
  refine lv_iload_n hx hb dL_isPair_1 rfl (lv_at hl 1 rfl) ?_
  refine lv_iload_n hx hb dL_isPair_2 rfl (lv_at hl 2 rfl) ?_
  refine lv_iload_n hx hb dL_isPair_3 rfl (lv_at hl 3 rfl) ?_
  obtain ⟨r1, hcl, hm⟩ := bnd hm
  refine kSF [0] [] C X (kL_area l g a p1 p2 p3 na u r1 hcl) (cw_L_isPair_L_area_48 C) rfl (by decide) rfl (by decide) (by decide) (As := [.ref (a 0), .int p1, .int p2, .int p3]) rfl hl (rest := []) rfl (Nat.le_of_ble_eq_true rfl) (st2 := [.long r1]) rfl dL_isPair_4 ⟨Nat.le_of_ble_eq_true rfl, Nat.le_of_ble_eq_true rfl⟩ [0] (by decide) (w3 := wR g a na u) rfl (fun H locs X => ?_)
  clear hcl
  refine lv_lstore (lv' := [(5, .long r1), (0, .ref (a 0)), (1, .int p1), (2, .int p2), (3, .int p3), (4, .int p4)]) hx hb dL_isPair_7 hl (by decide) rfl (fun ls hl => ?_)
  refine lv_aload_n hx hb dL_isPair_9 rfl (lv_at hl 1 rfl) ?_
  refine lv_iload_n hx hb dL_isPair_10 rfl (lv_at hl 2 rfl) ?_
  refine lv_iload_n hx hb dL_isPair_11 rfl (lv_at hl 3 rfl) ?_
  refine lv_iload hx hb dL_isPair_12 (lv_at hl 5 rfl) ?_
  obtain ⟨r2, hcl, hm⟩ := bnd hm
  refine kSF [0] [] C X (kL_area l g a p1 p2 p4 na u r2 hcl) (cw_L_isPair_L_area_48 C) rfl (by decide) rfl (by decide) (by decide) (As := [.ref (a 0), .int p1, .int p2, .int p4]) rfl hl (rest := []) rfl (Nat.le_of_ble_eq_true rfl) (st2 := [.long r2]) rfl dL_isPair_14 ⟨Nat.le_of_ble_eq_true rfl, Nat.le_of_ble_eq_true rfl⟩ [0] (by decide) (w3 := wR g a na u) rfl (fun H locs X => ?_)
  clear hcl
  refine lv_lstore (lv' := [(7, .long r2), (5, .long r1), (0, .ref (a 0)), (1, .int p1), (2, .int p2), (3, .int p3), (4, .int p4)]) hx hb dL_isPair_17 hl (by decide) rfl (fun ls hl => ?_)
  refine lv_aload_n hx hb dL_isPair_19 rfl (lv_at hl 2 rfl) ?_
  refine lv_iload_n hx hb dL_isPair_20 rfl (lv_at hl 5 rfl) ?_
  refine lv_iload hx hb dL_isPair_21 (lv_at hl 6 rfl) ?_
  refine lv_iload_n hx hb dL_isPair_23 rfl (lv_at hl 3 rfl) ?_
  obtain ⟨r3, hcl, hm⟩ := bnd hm
  refine kSF [0] [] C X (kL_area l g a p3 p4 p1 na u r3 hcl) (cw_L_isPair_L_area_48 C) rfl (by decide) rfl (by decide) (by decide) (As := [.ref (a 0), .int p3, .int p4, .int p1]) rfl hl (rest := []) rfl (Nat.le_of_ble_eq_true rfl) (st2 := [.long r3]) rfl dL_isPair_24 ⟨Nat.le_of_ble_eq_true rfl, Nat.le_of_ble_eq_true rfl⟩ [0] (by decide) (w3 := wR g a na u) rfl (fun H locs X => ?_)
  clear hcl
  refine lv_lstore (lv' := [(9, .long r3), (7, .long r2), (5, .long r1), (0, .ref (a 0)), (1, .int p1), (2, .int p2), (3, .int p3), (4, .int p4)]) hx hb dL_isPair_27 hl (by decide) rfl (fun ls hl => ?_)
  refine lv_aload_n hx hb dL_isPair_29 rfl (lv_at hl 3 rfl) ?_
  refine lv_iload_n hx hb dL_isPair_30 rfl (lv_at hl 6 rfl) ?_
  refine lv_iload hx hb dL_isPair_31 (lv_at hl 7 rfl) ?_
  refine lv_iload_n hx hb dL_isPair_33 rfl (lv_at hl 5 rfl) ?_
  obtain ⟨r4, hcl, hm⟩ := bnd hm
  refine kSF [0] [] C X (kL_area l g a p3 p4 p2 na u r4 hcl) (cw_L_isPair_L_area_48 C) rfl (by decide) rfl (by decide) (by decide) (As := [.ref (a 0), .int p3, .int p4, .int p2]) rfl hl (rest := []) rfl (Nat.le_of_ble_eq_true rfl) (st2 := [.long r4]) rfl dL_isPair_34 ⟨Nat.le_of_ble_eq_true rfl, Nat.le_of_ble_eq_true rfl⟩ [0] (by decide) (w3 := wR g a na u) rfl (fun H locs X => ?_)
  clear hcl
  refine lv_lstore (lv' := [(11, .long r4), (9, .long r3), (7, .long r2), (5, .long r1), (0, .ref (a 0)), (1, .int p1), (2, .int p2), (3, .int p3), (4, .int p4)]) hx hb dL_isPair_37 hl (by decide) rfl (fun ls hl => ?_)
  refine lv_lload hx hb dL_isPair_39 (lv_at hl 3 rfl) ?_
  refine lv_lconst (v := 0) hx hb dL_isPair_41 (by decide) ?_
  obtain ⟨v5, hE, hm⟩ := bnd hm
  have K : ∀ (H : Heap) (locs : List Loc) (ls : Array Slot), ST g A s H locs (wR g a na u) → lv_has ls 13 [] → W p l e rL_isPair s m args below meth c H locs 0 0 (kEnd g below args s (some (.int o1)) (wR g a na u) A 0 0) (F0 m 100 ls [.int v5]) := by
    intro H locs ls X hl
    clear hE
    obtain ⟨hgb, hm⟩ := gd_t hm
    cases sm hm
    exact kzret (isb_n hgb) C X dL_isPair_100
  clear hm
  have hm := hE
  clear hE
  refine klcmp_le (tgt := 53) hx hb dL_isPair_42 dL_isPair_43 (by decide) (fun hc => ?_) (fun hc => ?_)
  · have hm := ifp hc hm
    refine lv_lload hx hb dL_isPair_53 (lv_at hl 3 rfl) ?_
    refine lv_lconst (v := 0) hx hb dL_isPair_55 (by decide) ?_
    refine klcmp_ge (tgt := 99) hx hb dL_isPair_56 dL_isPair_57 (by decide) (fun hc => ?_) (fun hc => ?_)
    · have hm := ifp hc hm
      refine lv_iconst (v := 0) hx hb dL_isPair_99 (by decide) ?_
      cases sm hm
      exact K _ _ _ X (lv_sub hl [] rfl)
    · have hm := ifn hc hm
      refine lv_lload hx hb dL_isPair_60 (lv_at hl 2 rfl) ?_
      refine lv_lconst (v := 0) hx hb dL_isPair_62 (by decide) ?_
      refine klcmp_le (tgt := 99) hx hb dL_isPair_63 dL_isPair_64 (by decide) (fun hc => ?_) (fun hc => ?_)
      · have hm := ifp hc hm
        refine lv_iconst (v := 0) hx hb dL_isPair_99 (by decide) ?_
        cases sm hm
        exact K _ _ _ X (lv_sub hl [] rfl)
      · have hm := ifn hc hm
        refine lv_lload hx hb dL_isPair_67 (lv_at hl 1 rfl) ?_
        refine lv_lconst (v := 0) hx hb dL_isPair_69 (by decide) ?_
        refine klcmp_le (tgt := 81) hx hb dL_isPair_70 dL_isPair_71 (by decide) (fun hc => ?_) (fun hc => ?_)
        · have hm := ifp hc hm
          refine lv_lload hx hb dL_isPair_81 (lv_at hl 1 rfl) ?_
          refine lv_lconst (v := 0) hx hb dL_isPair_83 (by decide) ?_
          refine klcmp_ge (tgt := 99) hx hb dL_isPair_84 dL_isPair_85 (by decide) (fun hc => ?_) (fun hc => ?_)
          · have hm := ifp hc hm
            refine lv_iconst (v := 0) hx hb dL_isPair_99 (by decide) ?_
            cases sm hm
            exact K _ _ _ X (lv_sub hl [] rfl)
          · have hm := ifn hc hm
            refine lv_lload hx hb dL_isPair_88 (lv_at hl 0 rfl) ?_
            refine lv_lconst (v := 0) hx hb dL_isPair_90 (by decide) ?_
            refine klcmp_le (tgt := 99) hx hb dL_isPair_91 dL_isPair_92 (by decide) (fun hc => ?_) (fun hc => ?_)
            · have hm := ifp hc hm
              refine lv_iconst (v := 0) hx hb dL_isPair_99 (by decide) ?_
              cases sm hm
              exact K _ _ _ X (lv_sub hl [] rfl)
            · have hm := ifn hc hm
              refine lv_iconst (v := 1) hx hb dL_isPair_95 (by decide) ?_
              refine lv_goto (tgt := 100) hx hb dL_isPair_96 (by decide) ?_
              cases sm hm
              exact K _ _ _ X (lv_sub hl [] rfl)
        · have hm := ifn hc hm
          refine lv_lload hx hb dL_isPair_74 (lv_at hl 0 rfl) ?_
          refine lv_lconst (v := 0) hx hb dL_isPair_76 (by decide) ?_
          refine klcmp_lt (tgt := 95) hx hb dL_isPair_77 dL_isPair_78 (by decide) (fun hc => ?_) (fun hc => ?_)
          · have hm := ifp hc hm
            refine lv_iconst (v := 1) hx hb dL_isPair_95 (by decide) ?_
            refine lv_goto (tgt := 100) hx hb dL_isPair_96 (by decide) ?_
            cases sm hm
            exact K _ _ _ X (lv_sub hl [] rfl)
          · have hm := ifn hc hm
            refine lv_lload hx hb dL_isPair_81 (lv_at hl 1 rfl) ?_
            refine lv_lconst (v := 0) hx hb dL_isPair_83 (by decide) ?_
            refine klcmp_ge (tgt := 99) hx hb dL_isPair_84 dL_isPair_85 (by decide) (fun hc => ?_) (fun hc => ?_)
            · have hm := ifp hc hm
              refine lv_iconst (v := 0) hx hb dL_isPair_99 (by decide) ?_
              cases sm hm
              exact K _ _ _ X (lv_sub hl [] rfl)
            · have hm := ifn hc hm
              refine lv_lload hx hb dL_isPair_88 (lv_at hl 0 rfl) ?_
              refine lv_lconst (v := 0) hx hb dL_isPair_90 (by decide) ?_
              refine klcmp_le (tgt := 99) hx hb dL_isPair_91 dL_isPair_92 (by decide) (fun hc => ?_) (fun hc => ?_)
              · have hm := ifp hc hm
                refine lv_iconst (v := 0) hx hb dL_isPair_99 (by decide) ?_
                cases sm hm
                exact K _ _ _ X (lv_sub hl [] rfl)
              · have hm := ifn hc hm
                refine lv_iconst (v := 1) hx hb dL_isPair_95 (by decide) ?_
                refine lv_goto (tgt := 100) hx hb dL_isPair_96 (by decide) ?_
                cases sm hm
                exact K _ _ _ X (lv_sub hl [] rfl)
  · have hm := ifn hc hm
    refine lv_lload hx hb dL_isPair_46 (lv_at hl 2 rfl) ?_
    refine lv_lconst (v := 0) hx hb dL_isPair_48 (by decide) ?_
    refine klcmp_lt (tgt := 67) hx hb dL_isPair_49 dL_isPair_50 (by decide) (fun hc => ?_) (fun hc => ?_)
    · have hm := ifp hc hm
      refine lv_lload hx hb dL_isPair_67 (lv_at hl 1 rfl) ?_
      refine lv_lconst (v := 0) hx hb dL_isPair_69 (by decide) ?_
      refine klcmp_le (tgt := 81) hx hb dL_isPair_70 dL_isPair_71 (by decide) (fun hc => ?_) (fun hc => ?_)
      · have hm := ifp hc hm
        refine lv_lload hx hb dL_isPair_81 (lv_at hl 1 rfl) ?_
        refine lv_lconst (v := 0) hx hb dL_isPair_83 (by decide) ?_
        refine klcmp_ge (tgt := 99) hx hb dL_isPair_84 dL_isPair_85 (by decide) (fun hc => ?_) (fun hc => ?_)
        · have hm := ifp hc hm
          refine lv_iconst (v := 0) hx hb dL_isPair_99 (by decide) ?_
          cases sm hm
          exact K _ _ _ X (lv_sub hl [] rfl)
        · have hm := ifn hc hm
          refine lv_lload hx hb dL_isPair_88 (lv_at hl 0 rfl) ?_
          refine lv_lconst (v := 0) hx hb dL_isPair_90 (by decide) ?_
          refine klcmp_le (tgt := 99) hx hb dL_isPair_91 dL_isPair_92 (by decide) (fun hc => ?_) (fun hc => ?_)
          · have hm := ifp hc hm
            refine lv_iconst (v := 0) hx hb dL_isPair_99 (by decide) ?_
            cases sm hm
            exact K _ _ _ X (lv_sub hl [] rfl)
          · have hm := ifn hc hm
            refine lv_iconst (v := 1) hx hb dL_isPair_95 (by decide) ?_
            refine lv_goto (tgt := 100) hx hb dL_isPair_96 (by decide) ?_
            cases sm hm
            exact K _ _ _ X (lv_sub hl [] rfl)
      · have hm := ifn hc hm
        refine lv_lload hx hb dL_isPair_74 (lv_at hl 0 rfl) ?_
        refine lv_lconst (v := 0) hx hb dL_isPair_76 (by decide) ?_
        refine klcmp_lt (tgt := 95) hx hb dL_isPair_77 dL_isPair_78 (by decide) (fun hc => ?_) (fun hc => ?_)
        · have hm := ifp hc hm
          refine lv_iconst (v := 1) hx hb dL_isPair_95 (by decide) ?_
          refine lv_goto (tgt := 100) hx hb dL_isPair_96 (by decide) ?_
          cases sm hm
          exact K _ _ _ X (lv_sub hl [] rfl)
        · have hm := ifn hc hm
          refine lv_lload hx hb dL_isPair_81 (lv_at hl 1 rfl) ?_
          refine lv_lconst (v := 0) hx hb dL_isPair_83 (by decide) ?_
          refine klcmp_ge (tgt := 99) hx hb dL_isPair_84 dL_isPair_85 (by decide) (fun hc => ?_) (fun hc => ?_)
          · have hm := ifp hc hm
            refine lv_iconst (v := 0) hx hb dL_isPair_99 (by decide) ?_
            cases sm hm
            exact K _ _ _ X (lv_sub hl [] rfl)
          · have hm := ifn hc hm
            refine lv_lload hx hb dL_isPair_88 (lv_at hl 0 rfl) ?_
            refine lv_lconst (v := 0) hx hb dL_isPair_90 (by decide) ?_
            refine klcmp_le (tgt := 99) hx hb dL_isPair_91 dL_isPair_92 (by decide) (fun hc => ?_) (fun hc => ?_)
            · have hm := ifp hc hm
              refine lv_iconst (v := 0) hx hb dL_isPair_99 (by decide) ?_
              cases sm hm
              exact K _ _ _ X (lv_sub hl [] rfl)
            · have hm := ifn hc hm
              refine lv_iconst (v := 1) hx hb dL_isPair_95 (by decide) ?_
              refine lv_goto (tgt := 100) hx hb dL_isPair_96 (by decide) ?_
              cases sm hm
              exact K _ _ _ X (lv_sub hl [] rfl)
    · have hm := ifn hc hm
      refine lv_lload hx hb dL_isPair_53 (lv_at hl 3 rfl) ?_
      refine lv_lconst (v := 0) hx hb dL_isPair_55 (by decide) ?_
      refine klcmp_ge (tgt := 99) hx hb dL_isPair_56 dL_isPair_57 (by decide) (fun hc => ?_) (fun hc => ?_)
      · have hm := ifp hc hm
        refine lv_iconst (v := 0) hx hb dL_isPair_99 (by decide) ?_
        cases sm hm
        exact K _ _ _ X (lv_sub hl [] rfl)
      · have hm := ifn hc hm
        refine lv_lload hx hb dL_isPair_60 (lv_at hl 2 rfl) ?_
        refine lv_lconst (v := 0) hx hb dL_isPair_62 (by decide) ?_
        refine klcmp_le (tgt := 99) hx hb dL_isPair_63 dL_isPair_64 (by decide) (fun hc => ?_) (fun hc => ?_)
        · have hm := ifp hc hm
          refine lv_iconst (v := 0) hx hb dL_isPair_99 (by decide) ?_
          cases sm hm
          exact K _ _ _ X (lv_sub hl [] rfl)
        · have hm := ifn hc hm
          refine lv_lload hx hb dL_isPair_67 (lv_at hl 1 rfl) ?_
          refine lv_lconst (v := 0) hx hb dL_isPair_69 (by decide) ?_
          refine klcmp_le (tgt := 81) hx hb dL_isPair_70 dL_isPair_71 (by decide) (fun hc => ?_) (fun hc => ?_)
          · have hm := ifp hc hm
            refine lv_lload hx hb dL_isPair_81 (lv_at hl 1 rfl) ?_
            refine lv_lconst (v := 0) hx hb dL_isPair_83 (by decide) ?_
            refine klcmp_ge (tgt := 99) hx hb dL_isPair_84 dL_isPair_85 (by decide) (fun hc => ?_) (fun hc => ?_)
            · have hm := ifp hc hm
              refine lv_iconst (v := 0) hx hb dL_isPair_99 (by decide) ?_
              cases sm hm
              exact K _ _ _ X (lv_sub hl [] rfl)
            · have hm := ifn hc hm
              refine lv_lload hx hb dL_isPair_88 (lv_at hl 0 rfl) ?_
              refine lv_lconst (v := 0) hx hb dL_isPair_90 (by decide) ?_
              refine klcmp_le (tgt := 99) hx hb dL_isPair_91 dL_isPair_92 (by decide) (fun hc => ?_) (fun hc => ?_)
              · have hm := ifp hc hm
                refine lv_iconst (v := 0) hx hb dL_isPair_99 (by decide) ?_
                cases sm hm
                exact K _ _ _ X (lv_sub hl [] rfl)
              · have hm := ifn hc hm
                refine lv_iconst (v := 1) hx hb dL_isPair_95 (by decide) ?_
                refine lv_goto (tgt := 100) hx hb dL_isPair_96 (by decide) ?_
                cases sm hm
                exact K _ _ _ X (lv_sub hl [] rfl)
          · have hm := ifn hc hm
            refine lv_lload hx hb dL_isPair_74 (lv_at hl 0 rfl) ?_
            refine lv_lconst (v := 0) hx hb dL_isPair_76 (by decide) ?_
            refine klcmp_lt (tgt := 95) hx hb dL_isPair_77 dL_isPair_78 (by decide) (fun hc => ?_) (fun hc => ?_)
            · have hm := ifp hc hm
              refine lv_iconst (v := 1) hx hb dL_isPair_95 (by decide) ?_
              refine lv_goto (tgt := 100) hx hb dL_isPair_96 (by decide) ?_
              cases sm hm
              exact K _ _ _ X (lv_sub hl [] rfl)
            · have hm := ifn hc hm
              refine lv_lload hx hb dL_isPair_81 (lv_at hl 1 rfl) ?_
              refine lv_lconst (v := 0) hx hb dL_isPair_83 (by decide) ?_
              refine klcmp_ge (tgt := 99) hx hb dL_isPair_84 dL_isPair_85 (by decide) (fun hc => ?_) (fun hc => ?_)
              · have hm := ifp hc hm
                refine lv_iconst (v := 0) hx hb dL_isPair_99 (by decide) ?_
                cases sm hm
                exact K _ _ _ X (lv_sub hl [] rfl)
              · have hm := ifn hc hm
                refine lv_lload hx hb dL_isPair_88 (lv_at hl 0 rfl) ?_
                refine lv_lconst (v := 0) hx hb dL_isPair_90 (by decide) ?_
                refine klcmp_le (tgt := 99) hx hb dL_isPair_91 dL_isPair_92 (by decide) (fun hc => ?_) (fun hc => ?_)
                · have hm := ifp hc hm
                  refine lv_iconst (v := 0) hx hb dL_isPair_99 (by decide) ?_
                  cases sm hm
                  exact K _ _ _ X (lv_sub hl [] rfl)
                · have hm := ifn hc hm
                  refine lv_iconst (v := 1) hx hb dL_isPair_95 (by decide) ?_
                  refine lv_goto (tgt := 100) hx hb dL_isPair_96 (by decide) ?_
                  cases sm hm
                  exact K _ _ _ X (lv_sub hl [] rfl)
-- L BrushStrokesLaw.put([IIIII)V
abbrev rL_put : Room := { frames := 0, cells := 0, slots := 0, locals := 0 }
noncomputable def fL_put (p1 : Int32) (p2 : Int32) (p3 : Int32) (p4 : Int32) (na : Nat) (u : (Nat → Int32)) : Option ((Nat → Int32)) := gd (inb (3 * p1) na) (lt (upd u (3 * p1).toNatClampNeg p2) fun u1 => gd (inb ((3 * p1) + 1) na) (lt (upd u1 ((3 * p1) + 1).toNatClampNeg p3) fun u2 => gd (inb ((3 * p1) + 2) na) (lt (upd u2 ((3 * p1) + 2).toNatClampNeg p4) fun u3 => some u3)))
set_option maxRecDepth 100000 in
set_option maxHeartbeats 4000000 in
theorem kL_put (l : Launch) (g : kG) (a : Nat → Nat) (p1 : Int32) (p2 : Int32) (p3 : Int32) (p4 : Int32) (na : Nat) (u : (Nat → Int32)) (o1 : (Nat → Int32)) (hm : fL_put p1 p2 p3 p4 na u = some o1) : KM l yL_put wsL_put rL_put g [.ref (a 0), .int p1, .int p2, .int p3, .int p4] (wR g a na u) none (wR g a na o1) 0 0 := by
  refine KM.of (nL := 5) (by decide) rfl (Nat.le_of_ble_eq_true rfl) ?_
  intro p e s m args below meth c A ls C X hl
  have C : CT g p s m args meth c RL cL_put 5 none wsL_put A := C
  have hx := C.1
  have hb := C.2.1
  have hl : lv_has ls 5 [(0, .ref (a 0)), (1, .int p1), (2, .int p2), (3, .int p3), (4, .int p4)] := hl
  rw [fL_put] at hm
  refine lv_aload_n hx hb dL_put_0 rfl (lv_at hl 0 rfl) ?_
  refine lv_iconst (v := 3) hx hb dL_put_1 (by decide) ?_
  refine lv_iload_n hx hb dL_put_2 rfl (lv_at hl 1 rfl) ?_
  refine lv_imul hx hb dL_put_3 ?_
  refine lv_iload_n hx hb dL_put_4 rfl (lv_at hl 2 rfl) ?_
  obtain ⟨hgi, hm⟩ := gd_t hm
  obtain ⟨u1, eu⟩ : ∃ z, z = upd u (3 * p1).toNatClampNeg p2 := ⟨_, rfl⟩
  have hm := lt_t eu hm
  refine kiast C X 0 rfl hgi (w2 := wR g a na u1) (by subst eu; rfl) dL_put_5 (fun H locs X => ?_)
  clear eu
  refine lv_aload_n hx hb dL_put_6 rfl (lv_at hl 0 rfl) ?_
  refine lv_iconst (v := 3) hx hb dL_put_7 (by decide) ?_
  refine lv_iload_n hx hb dL_put_8 rfl (lv_at hl 1 rfl) ?_
  refine lv_imul hx hb dL_put_9 ?_
  refine lv_iconst (v := 1) hx hb dL_put_10 (by decide) ?_
  refine lv_iadd hx hb dL_put_11 ?_
  refine lv_iload_n hx hb dL_put_12 rfl (lv_at hl 3 rfl) ?_
  obtain ⟨hgi, hm⟩ := gd_t hm
  obtain ⟨u2, eu⟩ : ∃ z, z = upd u1 ((3 * p1) + 1).toNatClampNeg p3 := ⟨_, rfl⟩
  have hm := lt_t eu hm
  refine kiast C X 0 rfl hgi (w2 := wR g a na u2) (by subst eu; rfl) dL_put_13 (fun H locs X => ?_)
  clear eu
  refine lv_aload_n hx hb dL_put_14 rfl (lv_at hl 0 rfl) ?_
  refine lv_iconst (v := 3) hx hb dL_put_15 (by decide) ?_
  refine lv_iload_n hx hb dL_put_16 rfl (lv_at hl 1 rfl) ?_
  refine lv_imul hx hb dL_put_17 ?_
  refine lv_iconst (v := 2) hx hb dL_put_18 (by decide) ?_
  refine lv_iadd hx hb dL_put_19 ?_
  refine lv_iload hx hb dL_put_20 (lv_at hl 4 rfl) ?_
  obtain ⟨hgi, hm⟩ := gd_t hm
  obtain ⟨u3, eu⟩ : ∃ z, z = upd u2 ((3 * p1) + 2).toNatClampNeg p4 := ⟨_, rfl⟩
  have hm := lt_t eu hm
  refine kiast C X 0 rfl hgi (w2 := wR g a na u3) (by subst eu; rfl) dL_put_22 (fun H locs X => ?_)
  clear eu
  cases sm hm
  exact kvret C X dL_put_23
