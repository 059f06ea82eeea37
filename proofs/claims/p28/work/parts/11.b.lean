-- L BrushStrokesLaw.isNear([IIII)Z
abbrev rL_isNear : Room := { frames := 2, cells := 0, slots := 0, locals := 51 }
theorem cw_L_isNear_L_last_69 {p : Program} {s : State} {m : MethodId} {args : Array Value} {meth : Method} {c : Code} {g : kG} {A : Nat → Prop} (C : CT g p s m args meth c RL cL_isNear 6 (some .boolean) wsL_isNear A) : CallB rL_isNear s args RL 69 yL_last cL_last 3 (some .int) wsL_last rL_last 0 0 2 ∧ (Cond.static yL_last).before args s = true := cwS 2 C.2.2.2.2.2.1 gL_isNear_L_last rfl rfl rfl (by decide +kernel) ⟨Nat.le_of_ble_eq_true rfl, Nat.le_of_ble_eq_true rfl⟩
theorem cw_L_isNear_L_next_72 {p : Program} {s : State} {m : MethodId} {args : Array Value} {meth : Method} {c : Code} {g : kG} {A : Nat → Prop} (C : CT g p s m args meth c RL cL_isNear 6 (some .boolean) wsL_isNear A) : CallB rL_isNear s args RL 72 yL_next cL_next 3 (some .int) wsL_next rL_next 0 0 2 ∧ (Cond.static yL_next).before args s = true := cwS 2 C.2.2.2.2.2.1 gL_isNear_L_next rfl rfl rfl (by decide +kernel) ⟨Nat.le_of_ble_eq_true rfl, Nat.le_of_ble_eq_true rfl⟩
theorem cw_L_isNear_L_above_55 {p : Program} {s : State} {m : MethodId} {args : Array Value} {meth : Method} {c : Code} {g : kG} {A : Nat → Prop} (C : CT g p s m args meth c RL cL_isNear 6 (some .boolean) wsL_isNear A) : CallB rL_isNear s args RL 55 yL_above cL_above 8 (some .long) wsL_above rL_above 0 0 4 ∧ (Cond.static yL_above).before args s = true := cwS 4 C.2.2.2.2.2.1 gL_isNear_L_above rfl rfl rfl (by decide +kernel) ⟨Nat.le_of_ble_eq_true rfl, Nat.le_of_ble_eq_true rfl⟩
theorem cw_L_isNear_L_below_58 {p : Program} {s : State} {m : MethodId} {args : Array Value} {meth : Method} {c : Code} {g : kG} {A : Nat → Prop} (C : CT g p s m args meth c RL cL_isNear 6 (some .boolean) wsL_isNear A) : CallB rL_isNear s args RL 58 yL_below cL_below 6 (some .long) wsL_below rL_below 0 0 4 ∧ (Cond.static yL_below).before args s = true := cwS 4 C.2.2.2.2.2.1 gL_isNear_L_below rfl rfl rfl (by decide +kernel) ⟨Nat.le_of_ble_eq_true rfl, Nat.le_of_ble_eq_true rfl⟩
noncomputable def bL_isNear_6 (c1 : Int32) (c2 : Int32) (c3 : Int32) (w6 : (Nat → Int32)) (na : Nat) : Int32 × Int32 → Option ((Int32 × Int32) ⊕ (Int32))
  | (x4, x5) => if (c1 - 1) ≤ x5 then (some (.inr x4)) else (if x4 = 0 then (some (.inr x4)) else (((if ((c2 >>> (x5 &&& 31)) &&& 1) = 1 then (some 1) else ((fL_last c2 x5).bind fun r15 => (fL_next c2 x5).bind fun r16 => (fL_above x5 r15 r16 na w6).bind fun r17 => (fL_last c2 x5).bind fun r18 => (fL_next c2 x5).bind fun r19 => (fL_below x5 r18 r19 na w6).bind fun r20 => if ((c3.toInt64 * c3.toInt64) * r20) < r17 then (some 0) else (some 1))) : Option (Int32)).bind fun v14 => some (.inl (v14, x5 + 1))))
noncomputable def lL_isNear_6 (c1 : Int32) (c2 : Int32) (c3 : Int32) (w6 : (Nat → Int32)) (na : Nat) (x4 : Int32) (x5 : Int32) : Option (Int32) := lp (bL_isNear_6 c1 c2 c3 w6 na) (x4, x5)
theorem lL_isNear_6_eq (c1 : Int32) (c2 : Int32) (c3 : Int32) (w6 : (Nat → Int32)) (na : Nat) (x4 : Int32) (x5 : Int32) : lL_isNear_6 c1 c2 c3 w6 na x4 x5 = (if (c1 - 1) ≤ x5 then (some (.inr x4)) else (if x4 = 0 then (some (.inr x4)) else (((if ((c2 >>> (x5 &&& 31)) &&& 1) = 1 then (some 1) else ((fL_last c2 x5).bind fun r15 => (fL_next c2 x5).bind fun r16 => (fL_above x5 r15 r16 na w6).bind fun r17 => (fL_last c2 x5).bind fun r18 => (fL_next c2 x5).bind fun r19 => (fL_below x5 r18 r19 na w6).bind fun r20 => if ((c3.toInt64 * c3.toInt64) * r20) < r17 then (some 0) else (some 1))) : Option (Int32)).bind fun v14 => some (.inl (v14, x5 + 1))))).bind fun r => Sum.elim (fun z => lL_isNear_6 c1 c2 c3 w6 na z.1 z.2) (fun r => some r) r := lp_eq (bL_isNear_6 c1 c2 c3 w6 na) (x4, x5)
set_option maxRecDepth 100000 in
set_option maxHeartbeats 4000000 in
theorem tL_isNear_6 {p : Program} {l : Launch} {e : Env} {s : State} {m : MethodId} {args : Array Value} {below : List Frame} {meth : Method} {c : Code} {g : kG} {A : Nat → Prop} {Q : State → Prop} (a : Nat → Nat) (C : CT g p s m args meth c RL cL_isNear 6 (some .boolean) wsL_isNear A) (c1 : Int32) (c2 : Int32) (c3 : Int32) (w6 : (Nat → Int32)) (na : Nat) (y7 : Int32) (kk : ∀ (H : Heap) (locs : List Loc) (ls : Array Slot), ST g A s H locs (wR g a na w6) → lv_has ls 6 [(4, .int y7)] → W p l e rL_isNear s m args below meth c H locs 0 0 Q (F0 m 88 ls [])) : ∀ (n : Nat) (x4 : Int32) (x5 : Int32), whl (bL_isNear_6 c1 c2 c3 w6 na) n (x4, x5) = some y7 → ∀ (H : Heap) (locs : List Loc) (ls : Array Slot), ST g A s H locs (wR g a na w6) → lv_has ls 6 [(0, .ref (a 0)), (1, .int c1), (2, .int c2), (3, .int c3), (4, .int x4), (5, .int x5)] → W p l e rL_isNear s m args below meth c H locs 0 0 Q (F0 m 6 ls []) := by
  have hx := C.1
  have hb := C.2.1
  intro n
  induction n with
  | zero =>
    intro x4 x5 hm
    cases hm
  | succ n ih =>
    intro x4 x5 hm H locs ls X hl
    rw [whl] at hm
    obtain ⟨q, hq, hm2⟩ := bnd hm
    clear hm
    have hm := hq
    clear hq
    rw [bL_isNear_6] at hm
    refine lv_iload hx hb dL_isNear_6 (lv_at hl 5 rfl) ?_
    refine lv_iload_n hx hb dL_isNear_8 rfl (lv_at hl 1 rfl) ?_
    refine lv_iconst (v := 1) hx hb dL_isNear_9 (by decide) ?_
    refine lv_isub hx hb dL_isNear_10 ?_
    refine lv_icmp_ge (tgt := 88) hx hb dL_isNear_11 (by decide) (fun hc => ?_) (fun hc => ?_)
    · have hm := ifp hc hm
      cases sm hm
      cases sm hm2
      exact kk _ _ _ X (lv_sub hl [4] rfl)
    · have hm := ifn hc hm
      refine lv_iload hx hb dL_isNear_14 (lv_at hl 4 rfl) ?_
      refine lv_if_eq (tgt := 88) hx hb dL_isNear_16 (by decide) (fun hc => ?_) (fun hc => ?_)
      · have hm := ifp hc hm
        cases sm hm
        cases sm hm2
        exact kk _ _ _ X (lv_sub hl [4] rfl)
      · have hm := ifn hc hm
        refine lv_iload_n hx hb dL_isNear_19 rfl (lv_at hl 2 rfl) ?_
        refine lv_iload hx hb dL_isNear_20 (lv_at hl 5 rfl) ?_
        refine lv_ishr hx hb dL_isNear_22 ?_
        refine lv_iconst (v := 1) hx hb dL_isNear_23 (by decide) ?_
        refine lv_iand hx hb dL_isNear_24 ?_
        refine lv_iconst (v := 1) hx hb dL_isNear_25 (by decide) ?_
        obtain ⟨v14, hE, hm⟩ := bnd hm
        have K : ∀ (H : Heap) (locs : List Loc) (ls : Array Slot), ST g A s H locs (wR g a na w6) → lv_has ls 6 [(0, .ref (a 0)), (1, .int c1), (2, .int c2), (3, .int c3), (5, .int x5)] → W p l e rL_isNear s m args below meth c H locs 0 0 Q (F0 m 80 ls [.int v14]) := by
          intro H locs ls X hl
          clear hE
          refine lv_istore (lv' := [(4, .int v14), (0, .ref (a 0)), (1, .int c1), (2, .int c2), (3, .int c3), (5, .int x5)]) hx hb dL_isNear_80 hl (by decide) rfl (fun ls hl => ?_)
          refine lv_iinc (v := x5 + 1) (lv' := [(5, .int (x5 + 1)), (4, .int v14), (0, .ref (a 0)), (1, .int c1), (2, .int c2), (3, .int c3)]) hx hb dL_isNear_82 hl (k := 5) rfl rfl (by decide) rfl (fun ls hl => ?_)
          refine lv_goto (tgt := 6) hx hb dL_isNear_85 (by decide) ?_
          cases sm hm
          exact ih _ _ hm2 _ _ _ X (lv_sub hl [2, 3, 4, 5, 1, 0] rfl)
        clear hm
        have hm := hE
        clear hE
        refine lv_icmp_eq (tgt := 75) hx hb dL_isNear_26 (by decide) (fun hc => ?_) (fun hc => ?_)
        · have hm := ifp hc hm
          refine lv_iconst (v := 1) hx hb dL_isNear_75 (by decide) ?_
          refine lv_goto (tgt := 80) hx hb dL_isNear_76 (by decide) ?_
          cases sm hm
          exact K _ _ _ X (lv_sub hl [0, 1, 2, 3, 5] rfl)
        · have hm := ifn hc hm
          refine lv_aload_n hx hb dL_isNear_29 rfl (lv_at hl 0 rfl) ?_
          refine lv_iload hx hb dL_isNear_30 (lv_at hl 5 rfl) ?_
          refine lv_iload_n hx hb dL_isNear_32 rfl (lv_at hl 2 rfl) ?_
          refine lv_iload hx hb dL_isNear_33 (lv_at hl 5 rfl) ?_
          obtain ⟨r15, hcl, hm⟩ := bnd hm
          refine kS0 C X (kL_last l g c2 x5 r15 hcl) (cw_L_isNear_L_last_69 C) (As := [.int c2, .int x5]) rfl hl (rest := [.int x5, .ref (a 0)]) rfl (Nat.le_of_ble_eq_true rfl) (st2 := [.int r15, .int x5, .ref (a 0)]) rfl dL_isNear_35 ⟨Nat.le_of_ble_eq_true rfl, Nat.le_of_ble_eq_true rfl⟩ (fun H locs X => ?_)
          clear hcl
          refine lv_iload_n hx hb dL_isNear_38 rfl (lv_at hl 2 rfl) ?_
          refine lv_iload hx hb dL_isNear_39 (lv_at hl 5 rfl) ?_
          obtain ⟨r16, hcl, hm⟩ := bnd hm
          refine kS0 C X (kL_next l g c2 x5 r16 hcl) (cw_L_isNear_L_next_72 C) (As := [.int c2, .int x5]) rfl hl (rest := [.int r15, .int x5, .ref (a 0)]) rfl (Nat.le_of_ble_eq_true rfl) (st2 := [.int r16, .int r15, .int x5, .ref (a 0)]) rfl dL_isNear_41 ⟨Nat.le_of_ble_eq_true rfl, Nat.le_of_ble_eq_true rfl⟩ (fun H locs X => ?_)
          clear hcl
          obtain ⟨r17, hcl, hm⟩ := bnd hm
          refine kSF [0] [] C X (kL_above l g a x5 r15 r16 na w6 r17 hcl) (cw_L_isNear_L_above_55 C) rfl (by decide) rfl (by decide) (by decide) (As := [.ref (a 0), .int x5, .int r15, .int r16]) rfl hl (rest := []) rfl (Nat.le_of_ble_eq_true rfl) (st2 := [.long r17]) rfl dL_isNear_44 ⟨Nat.le_of_ble_eq_true rfl, Nat.le_of_ble_eq_true rfl⟩ [0] (by decide) (w3 := wR g a na w6) rfl (fun H locs X => ?_)
          clear hcl
          refine lv_iload_n hx hb dL_isNear_47 rfl (lv_at hl 3 rfl) ?_
          refine lv_i2l (v := c3.toInt64) hx hb dL_isNear_48 rfl ?_
          refine lv_iload_n hx hb dL_isNear_49 rfl (lv_at hl 3 rfl) ?_
          refine lv_i2l (v := c3.toInt64) hx hb dL_isNear_50 rfl ?_
          refine lv_lmul hx hb dL_isNear_51 ?_
          refine lv_aload_n hx hb dL_isNear_52 rfl (lv_at hl 0 rfl) ?_
          refine lv_iload hx hb dL_isNear_53 (lv_at hl 5 rfl) ?_
          refine lv_iload_n hx hb dL_isNear_55 rfl (lv_at hl 2 rfl) ?_
          refine lv_iload hx hb dL_isNear_56 (lv_at hl 5 rfl) ?_
          obtain ⟨r18, hcl, hm⟩ := bnd hm
          refine kS0 C X (kL_last l g c2 x5 r18 hcl) (cw_L_isNear_L_last_69 C) (As := [.int c2, .int x5]) rfl hl (rest := [.int x5, .ref (a 0), .long (c3.toInt64 * c3.toInt64), .long r17]) rfl (Nat.le_of_ble_eq_true rfl) (st2 := [.int r18, .int x5, .ref (a 0), .long (c3.toInt64 * c3.toInt64), .long r17]) rfl dL_isNear_58 ⟨Nat.le_of_ble_eq_true rfl, Nat.le_of_ble_eq_true rfl⟩ (fun H locs X => ?_)
          clear hcl
          refine lv_iload_n hx hb dL_isNear_61 rfl (lv_at hl 2 rfl) ?_
          refine lv_iload hx hb dL_isNear_62 (lv_at hl 5 rfl) ?_
          obtain ⟨r19, hcl, hm⟩ := bnd hm
          refine kS0 C X (kL_next l g c2 x5 r19 hcl) (cw_L_isNear_L_next_72 C) (As := [.int c2, .int x5]) rfl hl (rest := [.int r18, .int x5, .ref (a 0), .long (c3.toInt64 * c3.toInt64), .long r17]) rfl (Nat.le_of_ble_eq_true rfl) (st2 := [.int r19, .int r18, .int x5, .ref (a 0), .long (c3.toInt64 * c3.toInt64), .long r17]) rfl dL_isNear_64 ⟨Nat.le_of_ble_eq_true rfl, Nat.le_of_ble_eq_true rfl⟩ (fun H locs X => ?_)
          clear hcl
          obtain ⟨r20, hcl, hm⟩ := bnd hm
          refine kSF [0] [] C X (kL_below l g a x5 r18 r19 na w6 r20 hcl) (cw_L_isNear_L_below_58 C) rfl (by decide) rfl (by decide) (by decide) (As := [.ref (a 0), .int x5, .int r18, .int r19]) rfl hl (rest := [.long (c3.toInt64 * c3.toInt64), .long r17]) rfl (Nat.le_of_ble_eq_true rfl) (st2 := [.long r20, .long (c3.toInt64 * c3.toInt64), .long r17]) rfl dL_isNear_67 ⟨Nat.le_of_ble_eq_true rfl, Nat.le_of_ble_eq_true rfl⟩ [0] (by decide) (w3 := wR g a na w6) rfl (fun H locs X => ?_)
          clear hcl
          refine lv_lmul hx hb dL_isNear_70 ?_
          refine klcmp_gt (tgt := 79) hx hb dL_isNear_71 dL_isNear_72 (by decide) (fun hc => ?_) (fun hc => ?_)
          · have hm := ifp hc hm
            refine lv_iconst (v := 0) hx hb dL_isNear_79 (by decide) ?_
            cases sm hm
            exact K _ _ _ X (lv_sub hl [0, 1, 2, 3, 5] rfl)
          · have hm := ifn hc hm
            refine lv_iconst (v := 1) hx hb dL_isNear_75 (by decide) ?_
            refine lv_goto (tgt := 80) hx hb dL_isNear_76 (by decide) ?_
            cases sm hm
            exact K _ _ _ X (lv_sub hl [0, 1, 2, 3, 5] rfl)
noncomputable def fL_isNear (p1 : Int32) (p2 : Int32) (p3 : Int32) (na : Nat) (u : (Nat → Int32)) : Option (Int32) := (lL_isNear_6 p1 p2 p3 u na 1 1).bind fun y21 => gd (isb y21) (some y21)
set_option maxRecDepth 100000 in
set_option maxHeartbeats 4000000 in
theorem kL_isNear (l : Launch) (g : kG) (a : Nat → Nat) (p1 : Int32) (p2 : Int32) (p3 : Int32) (na : Nat) (u : (Nat → Int32)) (o1 : Int32) (hm : fL_isNear p1 p2 p3 na u = some o1) : KM l yL_isNear wsL_isNear rL_isNear g [.ref (a 0), .int p1, .int p2, .int p3] (wR g a na u) (some (.int o1)) (wR g a na u) 0 0 := by
  refine KM.of (nL := 6) (by decide) rfl (Nat.le_of_ble_eq_true rfl) ?_
  intro p e s m args below meth c A ls C X hl
  have C : CT g p s m args meth c RL cL_isNear 6 (some .boolean) wsL_isNear A := C
  have hx := C.1
  have hb := C.2.1
  have hl : lv_has ls 6 [(0, .ref (a 0)), (1, .int p1), (2, .int p2), (3, .int p3)] := hl
  rw [fL_isNear] at hm
  refine lv_iconst (v := 1) hx hb dL_isNear_0 (by decide) ?_
  refine lv_istore (lv' := [(4, .int 1), (0, .ref (a 0)), (1, .int p1), (2, .int p2), (3, .int p3)]) hx hb dL_isNear_1 hl (by decide) rfl (fun ls hl => ?_)
  refine lv_iconst (v := 1) hx hb dL_isNear_3 (by decide) ?_
  refine lv_istore (lv' := [(5, .int 1), (4, .int 1), (0, .ref (a 0)), (1, .int p1), (2, .int p2), (3, .int p3)]) hx hb dL_isNear_4 hl (by decide) rfl (fun ls hl => ?_)
  obtain ⟨y21, hL, hm⟩ := bnd hm
  obtain ⟨nn, hn⟩ := lp_run hL
  refine tL_isNear_6 a C p1 p2 p3 u na y21 (fun H locs ls X hl => ?_) nn _ _ hn _ _ _ X (lv_sub hl [2, 3, 4, 5, 1, 0] rfl)
  clear hL hn
  refine lv_iload hx hb dL_isNear_88 (lv_at hl 0 rfl) ?_
  obtain ⟨hgb, hm⟩ := gd_t hm
  cases sm hm
  exact kzret (isb_n hgb) C X dL_isNear_90
-- L BrushStrokesLaw.fewest([IIII)I
abbrev rL_fewest : Room := { frames := 3, cells := 0, slots := 0, locals := 76 }
theorem cw_L_fewest_L_ones_75 {p : Program} {s : State} {m : MethodId} {args : Array Value} {meth : Method} {c : Code} {g : kG} {A : Nat → Prop} (C : CT g p s m args meth c RL cL_fewest 6 (some .int) wsL_fewest A) : CallB rL_fewest s args RL 75 yL_ones cL_ones 3 (some .int) wsL_ones rL_ones 0 0 1 ∧ (Cond.static yL_ones).before args s = true := cwS 1 C.2.2.2.2.2.1 gL_fewest_L_ones rfl rfl rfl (by decide +kernel) ⟨Nat.le_of_ble_eq_true rfl, Nat.le_of_ble_eq_true rfl⟩
theorem cw_L_fewest_L_isNear_78 {p : Program} {s : State} {m : MethodId} {args : Array Value} {meth : Method} {c : Code} {g : kG} {A : Nat → Prop} (C : CT g p s m args meth c RL cL_fewest 6 (some .int) wsL_fewest A) : CallB rL_fewest s args RL 78 yL_isNear cL_isNear 6 (some .boolean) wsL_isNear rL_isNear 0 0 4 ∧ (Cond.static yL_isNear).before args s = true := cwS 4 C.2.2.2.2.2.1 gL_fewest_L_isNear rfl rfl rfl (by decide +kernel) ⟨Nat.le_of_ble_eq_true rfl, Nat.le_of_ble_eq_true rfl⟩
noncomputable def bL_fewest_11 (c1 : Int32) (c2 : Int32) (c3 : Int32) (w6 : (Nat → Int32)) (na : Nat) : Int32 × Int32 → Option ((Int32 × Int32) ⊕ (Int32))
  | (x4, x5) => if x5 ≤ 0 then (some (.inr x4)) else (((if (x5 &&& c2) = c2 then ((fL_ones x5).bind fun r12 => (fL_ones x4).bind fun r13 => if r13 < r12 then (some x4) else ((fL_isNear c1 x5 c3 na w6).bind fun r14 => if r14 = 0 then (some x4) else (some x5))) else (some x4)) : Option (Int32)).bind fun v11 => some (.inl (v11, x5 + (-1))))
noncomputable def lL_fewest_11 (c1 : Int32) (c2 : Int32) (c3 : Int32) (w6 : (Nat → Int32)) (na : Nat) (x4 : Int32) (x5 : Int32) : Option (Int32) := lp (bL_fewest_11 c1 c2 c3 w6 na) (x4, x5)
theorem lL_fewest_11_eq (c1 : Int32) (c2 : Int32) (c3 : Int32) (w6 : (Nat → Int32)) (na : Nat) (x4 : Int32) (x5 : Int32) : lL_fewest_11 c1 c2 c3 w6 na x4 x5 = (if x5 ≤ 0 then (some (.inr x4)) else (((if (x5 &&& c2) = c2 then ((fL_ones x5).bind fun r12 => (fL_ones x4).bind fun r13 => if r13 < r12 then (some x4) else ((fL_isNear c1 x5 c3 na w6).bind fun r14 => if r14 = 0 then (some x4) else (some x5))) else (some x4)) : Option (Int32)).bind fun v11 => some (.inl (v11, x5 + (-1))))).bind fun r => Sum.elim (fun z => lL_fewest_11 c1 c2 c3 w6 na z.1 z.2) (fun r => some r) r := lp_eq (bL_fewest_11 c1 c2 c3 w6 na) (x4, x5)
set_option maxRecDepth 100000 in
set_option maxHeartbeats 4000000 in
theorem tL_fewest_11 {p : Program} {l : Launch} {e : Env} {s : State} {m : MethodId} {args : Array Value} {below : List Frame} {meth : Method} {c : Code} {g : kG} {A : Nat → Prop} {Q : State → Prop} (a : Nat → Nat) (C : CT g p s m args meth c RL cL_fewest 6 (some .int) wsL_fewest A) (c1 : Int32) (c2 : Int32) (c3 : Int32) (w6 : (Nat → Int32)) (na : Nat) (y7 : Int32) (kk : ∀ (H : Heap) (locs : List Loc) (ls : Array Slot), ST g A s H locs (wR g a na w6) → lv_has ls 6 [(4, .int y7)] → W p l e rL_fewest s m args below meth c H locs 0 0 Q (F0 m 58 ls [])) : ∀ (n : Nat) (x4 : Int32) (x5 : Int32), whl (bL_fewest_11 c1 c2 c3 w6 na) n (x4, x5) = some y7 → ∀ (H : Heap) (locs : List Loc) (ls : Array Slot), ST g A s H locs (wR g a na w6) → lv_has ls 6 [(0, .ref (a 0)), (1, .int c1), (2, .int c2), (3, .int c3), (4, .int x4), (5, .int x5)] → W p l e rL_fewest s m args below meth c H locs 0 0 Q (F0 m 11 ls []) := by
  have hx := C.1
  have hb := C.2.1
  intro n
  induction n with
  | zero =>
    intro x4 x5 hm
    cases hm
  | succ n ih =>
    intro x4 x5 hm H locs ls X hl
    rw [whl] at hm
    obtain ⟨q, hq, hm2⟩ := bnd hm
    clear hm
    have hm := hq
    clear hq
    rw [bL_fewest_11] at hm
    refine lv_iload hx hb dL_fewest_11 (lv_at hl 5 rfl) ?_
    refine lv_if_le (tgt := 58) hx hb dL_fewest_13 (by decide) (fun hc => ?_) (fun hc => ?_)
    · have hm := ifp hc hm
      cases sm hm
      cases sm hm2
      exact kk _ _ _ X (lv_sub hl [4] rfl)
    · have hm := ifn hc hm
      refine lv_iload hx hb dL_fewest_16 (lv_at hl 5 rfl) ?_
      refine lv_iload_n hx hb dL_fewest_18 rfl (lv_at hl 2 rfl) ?_
      refine lv_iand hx hb dL_fewest_19 ?_
      refine lv_iload_n hx hb dL_fewest_20 rfl (lv_at hl 2 rfl) ?_
      obtain ⟨v11, hE, hm⟩ := bnd hm
      have K : ∀ (H : Heap) (locs : List Loc) (ls : Array Slot), ST g A s H locs (wR g a na w6) → lv_has ls 6 [(0, .ref (a 0)), (1, .int c1), (2, .int c2), (3, .int c3), (4, .int v11), (5, .int x5)] → W p l e rL_fewest s m args below meth c H locs 0 0 Q (F0 m 52 ls []) := by
        intro H locs ls X hl
        clear hE
        refine lv_iinc (v := x5 + (-1)) (lv' := [(5, .int (x5 + (-1))), (0, .ref (a 0)), (1, .int c1), (2, .int c2), (3, .int c3), (4, .int v11)]) hx hb dL_fewest_52 hl (k := 5) rfl rfl (by decide) rfl (fun ls hl => ?_)
        refine lv_goto (tgt := 11) hx hb dL_fewest_55 (by decide) ?_
        cases sm hm
        exact ih _ _ hm2 _ _ _ X (lv_sub hl [1, 2, 3, 4, 5, 0] rfl)
      clear hm
      have hm := hE
      clear hE
      refine lv_icmp_ne (tgt := 52) hx hb dL_fewest_21 (by decide) (fun hc => ?_) (fun hc => ?_)
      · have hm := ifn hc hm
        cases sm hm
        exact K _ _ _ X (lv_sub hl [0, 1, 2, 3, 4, 5] rfl)
      · have hm := ifp hc hm
        refine lv_iload hx hb dL_fewest_24 (lv_at hl 5 rfl) ?_
        obtain ⟨r12, hcl, hm⟩ := bnd hm
        refine kS0 C X (kL_ones l g x5 r12 hcl) (cw_L_fewest_L_ones_75 C) (As := [.int x5]) rfl hl (rest := []) rfl (Nat.le_of_ble_eq_true rfl) (st2 := [.int r12]) rfl dL_fewest_26 ⟨Nat.le_of_ble_eq_true rfl, Nat.le_of_ble_eq_true rfl⟩ (fun H locs X => ?_)
        clear hcl
        refine lv_iload hx hb dL_fewest_29 (lv_at hl 4 rfl) ?_
        obtain ⟨r13, hcl, hm⟩ := bnd hm
        refine kS0 C X (kL_ones l g x4 r13 hcl) (cw_L_fewest_L_ones_75 C) (As := [.int x4]) rfl hl (rest := [.int r12]) rfl (Nat.le_of_ble_eq_true rfl) (st2 := [.int r13, .int r12]) rfl dL_fewest_31 ⟨Nat.le_of_ble_eq_true rfl, Nat.le_of_ble_eq_true rfl⟩ (fun H locs X => ?_)
        clear hcl
        refine lv_icmp_gt (tgt := 52) hx hb dL_fewest_34 (by decide) (fun hc => ?_) (fun hc => ?_)
        · have hm := ifp hc hm
          cases sm hm
          exact K _ _ _ X (lv_sub hl [0, 1, 2, 3, 4, 5] rfl)
        · have hm := ifn hc hm
          refine lv_aload_n hx hb dL_fewest_37 rfl (lv_at hl 0 rfl) ?_
          refine lv_iload_n hx hb dL_fewest_38 rfl (lv_at hl 1 rfl) ?_
          refine lv_iload hx hb dL_fewest_39 (lv_at hl 5 rfl) ?_
          refine lv_iload_n hx hb dL_fewest_41 rfl (lv_at hl 3 rfl) ?_
          obtain ⟨r14, hcl, hm⟩ := bnd hm
          refine kSF [0] [] C X (kL_isNear l g a c1 x5 c3 na w6 r14 hcl) (cw_L_fewest_L_isNear_78 C) rfl (by decide) rfl (by decide) (by decide) (As := [.ref (a 0), .int c1, .int x5, .int c3]) rfl hl (rest := []) rfl (Nat.le_of_ble_eq_true rfl) (st2 := [.int r14]) rfl dL_fewest_42 ⟨Nat.le_of_ble_eq_true rfl, Nat.le_of_ble_eq_true rfl⟩ [0] (by decide) (w3 := wR g a na w6) rfl (fun H locs X => ?_)
          clear hcl
          refine lv_if_eq (tgt := 52) hx hb dL_fewest_45 (by decide) (fun hc => ?_) (fun hc => ?_)
          · have hm := ifp hc hm
            cases sm hm
            exact K _ _ _ X (lv_sub hl [0, 1, 2, 3, 4, 5] rfl)
          · have hm := ifn hc hm
            refine lv_iload hx hb dL_fewest_48 (lv_at hl 5 rfl) ?_
            refine lv_istore (lv' := [(4, .int x5), (0, .ref (a 0)), (1, .int c1), (2, .int c2), (3, .int c3), (5, .int x5)]) hx hb dL_fewest_50 hl (by decide) rfl (fun ls hl => ?_)
            cases sm hm
            exact K _ _ _ X (lv_sub hl [1, 2, 3, 4, 0, 5] rfl)
noncomputable def fL_fewest (p1 : Int32) (p2 : Int32) (p3 : Int32) (na : Nat) (u : (Nat → Int32)) : Option (Int32) := (lL_fewest_11 p1 p2 p3 u na ((1 <<< (p1 &&& 31)) - 1) ((1 <<< (p1 &&& 31)) - 1)).bind fun y15 => some y15
set_option maxRecDepth 100000 in
set_option maxHeartbeats 4000000 in
theorem kL_fewest (l : Launch) (g : kG) (a : Nat → Nat) (p1 : Int32) (p2 : Int32) (p3 : Int32) (na : Nat) (u : (Nat → Int32)) (o1 : Int32) (hm : fL_fewest p1 p2 p3 na u = some o1) : KM l yL_fewest wsL_fewest rL_fewest g [.ref (a 0), .int p1, .int p2, .int p3] (wR g a na u) (some (.int o1)) (wR g a na u) 0 0 := by
  refine KM.of (nL := 6) (by decide) rfl (Nat.le_of_ble_eq_true rfl) ?_
  intro p e s m args below meth c A ls C X hl
  have C : CT g p s m args meth c RL cL_fewest 6 (some .int) wsL_fewest A := C
  have hx := C.1
  have hb := C.2.1
  have hl : lv_has ls 6 [(0, .ref (a 0)), (1, .int p1), (2, .int p2), (3, .int p3)] := hl
  rw [fL_fewest] at hm
  refine lv_iconst (v := 1) hx hb dL_fewest_0 (by decide) ?_
  refine lv_iload_n hx hb dL_fewest_1 rfl (lv_at hl 1 rfl) ?_
  refine lv_ishl hx hb dL_fewest_2 ?_
  refine lv_iconst (v := 1) hx hb dL_fewest_3 (by decide) ?_
  refine lv_isub hx hb dL_fewest_4 ?_
  refine lv_istore (lv' := [(4, .int ((1 <<< (p1 &&& 31)) - 1)), (0, .ref (a 0)), (1, .int p1), (2, .int p2), (3, .int p3)]) hx hb dL_fewest_5 hl (by decide) rfl (fun ls hl => ?_)
  refine lv_iload hx hb dL_fewest_7 (lv_at hl 0 rfl) ?_
  refine lv_istore (lv' := [(5, .int ((1 <<< (p1 &&& 31)) - 1)), (4, .int ((1 <<< (p1 &&& 31)) - 1)), (0, .ref (a 0)), (1, .int p1), (2, .int p2), (3, .int p3)]) hx hb dL_fewest_9 hl (by decide) rfl (fun ls hl => ?_)
  obtain ⟨y15, hL, hm⟩ := bnd hm
  obtain ⟨nn, hn⟩ := lp_run hL
  refine tL_fewest_11 a C p1 p2 p3 u na y15 (fun H locs ls X hl => ?_) nn _ _ hn _ _ _ X (lv_sub hl [2, 3, 4, 5, 1, 0] rfl)
  clear hL hn
  refine lv_iload hx hb dL_fewest_58 (lv_at hl 0 rfl) ?_
  cases sm hm
  exact kiret C X dL_fewest_60
-- L BrushStrokesLaw.split([IIII)I
abbrev rL_split : Room := { frames := 2, cells := 0, slots := 0, locals := 51 }
theorem cw_L_split_L_below_58 {p : Program} {s : State} {m : MethodId} {args : Array Value} {meth : Method} {c : Code} {g : kG} {A : Nat → Prop} (C : CT g p s m args meth c RL cL_split 11 (some .int) wsL_split A) : CallB rL_split s args RL 58 yL_below cL_below 6 (some .long) wsL_below rL_below 0 0 4 ∧ (Cond.static yL_below).before args s = true := cwS 4 C.2.2.2.2.2.1 gL_split_L_below rfl rfl rfl (by decide +kernel) ⟨Nat.le_of_ble_eq_true rfl, Nat.le_of_ble_eq_true rfl⟩
theorem cw_L_split_L_above_55 {p : Program} {s : State} {m : MethodId} {args : Array Value} {meth : Method} {c : Code} {g : kG} {A : Nat → Prop} (C : CT g p s m args meth c RL cL_split 11 (some .int) wsL_split A) : CallB rL_split s args RL 55 yL_above cL_above 8 (some .long) wsL_above rL_above 0 0 4 ∧ (Cond.static yL_above).before args s = true := cwS 4 C.2.2.2.2.2.1 gL_split_L_above rfl rfl rfl (by decide +kernel) ⟨Nat.le_of_ble_eq_true rfl, Nat.le_of_ble_eq_true rfl⟩
theorem cw_L_split_L_next_72 {p : Program} {s : State} {m : MethodId} {args : Array Value} {meth : Method} {c : Code} {g : kG} {A : Nat → Prop} (C : CT g p s m args meth c RL cL_split 11 (some .int) wsL_split A) : CallB rL_split s args RL 72 yL_next cL_next 3 (some .int) wsL_next rL_next 0 0 2 ∧ (Cond.static yL_next).before args s = true := cwS 2 C.2.2.2.2.2.1 gL_split_L_next rfl rfl rfl (by decide +kernel) ⟨Nat.le_of_ble_eq_true rfl, Nat.le_of_ble_eq_true rfl⟩
noncomputable def bL_split_55 (c46 : Int32) (c47 : Int32) (w50 : (Nat → Int32)) (na : Nat) : Int32 × Int32 → Option ((Int32 × Int32) ⊕ (Int32))
  | (x48, x49) => if x49 ≤ c46 then (some (.inr x48)) else (((if x48 < 0 then (some 1) else ((fL_above x49 c46 c47 na w50).bind fun r57 => (fL_below x48 c46 c47 na w50).bind fun r58 => (fL_above x48 c46 c47 na w50).bind fun r59 => (fL_below x49 c46 c47 na w50).bind fun r60 => if (r57 * r58) < (r59 * r60) then (some 0) else (some 1))) : Option (Int32)).bind fun v56 => ((if v56 = 0 then (some x48) else (some x49)) : Option (Int32)).bind fun v61 => some (.inl (v61, x49 + (-1))))
noncomputable def lL_split_55 (c46 : Int32) (c47 : Int32) (w50 : (Nat → Int32)) (na : Nat) (x48 : Int32) (x49 : Int32) : Option (Int32) := lp (bL_split_55 c46 c47 w50 na) (x48, x49)
theorem lL_split_55_eq (c46 : Int32) (c47 : Int32) (w50 : (Nat → Int32)) (na : Nat) (x48 : Int32) (x49 : Int32) : lL_split_55 c46 c47 w50 na x48 x49 = (if x49 ≤ c46 then (some (.inr x48)) else (((if x48 < 0 then (some 1) else ((fL_above x49 c46 c47 na w50).bind fun r57 => (fL_below x48 c46 c47 na w50).bind fun r58 => (fL_above x48 c46 c47 na w50).bind fun r59 => (fL_below x49 c46 c47 na w50).bind fun r60 => if (r57 * r58) < (r59 * r60) then (some 0) else (some 1))) : Option (Int32)).bind fun v56 => ((if v56 = 0 then (some x48) else (some x49)) : Option (Int32)).bind fun v61 => some (.inl (v61, x49 + (-1))))).bind fun r => Sum.elim (fun z => lL_split_55 c46 c47 w50 na z.1 z.2) (fun r => some r) r := lp_eq (bL_split_55 c46 c47 w50 na) (x48, x49)
set_option maxRecDepth 100000 in
set_option maxHeartbeats 4000000 in
theorem tL_split_55 {p : Program} {l : Launch} {e : Env} {s : State} {m : MethodId} {args : Array Value} {below : List Frame} {meth : Method} {c : Code} {g : kG} {A : Nat → Prop} {Q : State → Prop} (a : Nat → Nat) (C : CT g p s m args meth c RL cL_split 11 (some .int) wsL_split A) (c42 : Int32) (c43 : Int32) (c44 : Int32) (c45 : Int32) (c46 : Int32) (c47 : Int32) (w50 : (Nat → Int32)) (na : Nat) (y51 : Int32) (kk : ∀ (H : Heap) (locs : List Loc) (ls : Array Slot), ST g A s H locs (wR g a na w50) → lv_has ls 11 [(0, .ref (a 0)), (1, .int c42), (3, .int c43), (4, .int c44), (5, .int c45), (6, .int c46), (7, .int c47), (8, .int y51)] → W p l e rL_split s m args below meth c H locs 0 0 Q (F0 m 140 ls [])) : ∀ (n : Nat) (x48 : Int32) (x49 : Int32), whl (bL_split_55 c46 c47 w50 na) n (x48, x49) = some y51 → ∀ (H : Heap) (locs : List Loc) (ls : Array Slot), ST g A s H locs (wR g a na w50) → lv_has ls 11 [(0, .ref (a 0)), (1, .int c42), (3, .int c43), (4, .int c44), (5, .int c45), (6, .int c46), (7, .int c47), (8, .int x48), (9, .int x49)] → W p l e rL_split s m args below meth c H locs 0 0 Q (F0 m 55 ls []) := by
  have hx := C.1
  have hb := C.2.1
  intro n
  induction n with
  | zero =>
    intro x48 x49 hm
    cases hm
  | succ n ih =>
    intro x48 x49 hm H locs ls X hl
    rw [whl] at hm
    obtain ⟨q, hq, hm2⟩ := bnd hm
    clear hm
    have hm := hq
    clear hq
    rw [bL_split_55] at hm
    refine lv_iload hx hb dL_split_55 (lv_at hl 8 rfl) ?_
    refine lv_iload hx hb dL_split_57 (lv_at hl 5 rfl) ?_
    refine lv_icmp_le (tgt := 140) hx hb dL_split_59 (by decide) (fun hc => ?_) (fun hc => ?_)
    · have hm := ifp hc hm
      cases sm hm
      cases sm hm2
      exact kk _ _ _ X (lv_sub hl [0, 1, 2, 3, 4, 5, 6, 7] rfl)
    · have hm := ifn hc hm
      refine lv_iload hx hb dL_split_62 (lv_at hl 7 rfl) ?_
      obtain ⟨v56, hE, hm⟩ := bnd hm
      have K : ∀ (H : Heap) (locs : List Loc) (ls : Array Slot), ST g A s H locs (wR g a na w50) → lv_has ls 11 [(0, .ref (a 0)), (1, .int c42), (3, .int c43), (4, .int c44), (5, .int c45), (6, .int c46), (7, .int c47), (8, .int x48), (9, .int x49)] → W p l e rL_split s m args below meth c H locs 0 0 Q (F0 m 118 ls [.int v56]) := by
        intro H locs ls X hl
        clear hE
        refine lv_istore (lv' := [(10, .int v56), (0, .ref (a 0)), (1, .int c42), (3, .int c43), (4, .int c44), (5, .int c45), (6, .int c46), (7, .int c47), (8, .int x48), (9, .int x49)]) hx hb dL_split_118 hl (by decide) rfl (fun ls hl => ?_)
        refine lv_iload hx hb dL_split_120 (lv_at hl 0 rfl) ?_
        obtain ⟨v61, hE, hm⟩ := bnd hm
        have K : ∀ (H : Heap) (locs : List Loc) (ls : Array Slot), ST g A s H locs (wR g a na w50) → lv_has ls 11 [(0, .ref (a 0)), (1, .int c42), (3, .int c43), (4, .int c44), (5, .int c45), (6, .int c46), (7, .int c47), (9, .int x49)] → W p l e rL_split s m args below meth c H locs 0 0 Q (F0 m 132 ls [.int v61]) := by
          intro H locs ls X hl
          clear hE
          refine lv_istore (lv' := [(8, .int v61), (0, .ref (a 0)), (1, .int c42), (3, .int c43), (4, .int c44), (5, .int c45), (6, .int c46), (7, .int c47), (9, .int x49)]) hx hb dL_split_132 hl (by decide) rfl (fun ls hl => ?_)
          refine lv_iinc (v := x49 + (-1)) (lv' := [(9, .int (x49 + (-1))), (8, .int v61), (0, .ref (a 0)), (1, .int c42), (3, .int c43), (4, .int c44), (5, .int c45), (6, .int c46), (7, .int c47)]) hx hb dL_split_134 hl (k := 8) rfl rfl (by decide) rfl (fun ls hl => ?_)
          refine lv_goto (tgt := 55) hx hb dL_split_137 (by decide) ?_
          cases sm hm
          exact ih _ _ hm2 _ _ _ X (lv_sub hl [2, 3, 4, 5, 6, 7, 8, 1, 0] rfl)
        clear hm
        have hm := hE
        clear hE
        refine lv_if_eq (tgt := 130) hx hb dL_split_122 (by decide) (fun hc => ?_) (fun hc => ?_)
        · have hm := ifp hc hm
          refine lv_iload hx hb dL_split_130 (lv_at hl 8 rfl) ?_
          cases sm hm
          exact K _ _ _ X (lv_sub hl [1, 2, 3, 4, 5, 6, 7, 9] rfl)
        · have hm := ifn hc hm
          refine lv_iload hx hb dL_split_125 (lv_at hl 9 rfl) ?_
          refine lv_goto (tgt := 132) hx hb dL_split_127 (by decide) ?_
          cases sm hm
          exact K _ _ _ X (lv_sub hl [1, 2, 3, 4, 5, 6, 7, 9] rfl)
      clear hm
      have hm := hE
      clear hE
      refine lv_if_lt (tgt := 113) hx hb dL_split_64 (by decide) (fun hc => ?_) (fun hc => ?_)
      · have hm := ifp hc hm
        refine lv_iconst (v := 1) hx hb dL_split_113 (by decide) ?_
        refine lv_goto (tgt := 118) hx hb dL_split_114 (by decide) ?_
        cases sm hm
        exact K _ _ _ X (lv_sub hl [0, 1, 2, 3, 4, 5, 6, 7, 8] rfl)
      · have hm := ifn hc hm
        refine lv_aload_n hx hb dL_split_67 rfl (lv_at hl 0 rfl) ?_
        refine lv_iload hx hb dL_split_68 (lv_at hl 8 rfl) ?_
        refine lv_iload hx hb dL_split_70 (lv_at hl 5 rfl) ?_
        refine lv_iload hx hb dL_split_72 (lv_at hl 6 rfl) ?_
        obtain ⟨r57, hcl, hm⟩ := bnd hm
        refine kSF [0] [] C X (kL_above l g a x49 c46 c47 na w50 r57 hcl) (cw_L_split_L_above_55 C) rfl (by decide) rfl (by decide) (by decide) (As := [.ref (a 0), .int x49, .int c46, .int c47]) rfl hl (rest := []) rfl (Nat.le_of_ble_eq_true rfl) (st2 := [.long r57]) rfl dL_split_74 ⟨Nat.le_of_ble_eq_true rfl, Nat.le_of_ble_eq_true rfl⟩ [0] (by decide) (w3 := wR g a na w50) rfl (fun H locs X => ?_)
        clear hcl
        refine lv_aload_n hx hb dL_split_77 rfl (lv_at hl 0 rfl) ?_
        refine lv_iload hx hb dL_split_78 (lv_at hl 7 rfl) ?_
        refine lv_iload hx hb dL_split_80 (lv_at hl 5 rfl) ?_
        refine lv_iload hx hb dL_split_82 (lv_at hl 6 rfl) ?_
        obtain ⟨r58, hcl, hm⟩ := bnd hm
        refine kSF [0] [] C X (kL_below l g a x48 c46 c47 na w50 r58 hcl) (cw_L_split_L_below_58 C) rfl (by decide) rfl (by decide) (by decide) (As := [.ref (a 0), .int x48, .int c46, .int c47]) rfl hl (rest := [.long r57]) rfl (Nat.le_of_ble_eq_true rfl) (st2 := [.long r58, .long r57]) rfl dL_split_84 ⟨Nat.le_of_ble_eq_true rfl, Nat.le_of_ble_eq_true rfl⟩ [0] (by decide) (w3 := wR g a na w50) rfl (fun H locs X => ?_)
        clear hcl
        refine lv_lmul hx hb dL_split_87 ?_
        refine lv_aload_n hx hb dL_split_88 rfl (lv_at hl 0 rfl) ?_
        refine lv_iload hx hb dL_split_89 (lv_at hl 7 rfl) ?_
        refine lv_iload hx hb dL_split_91 (lv_at hl 5 rfl) ?_
        refine lv_iload hx hb dL_split_93 (lv_at hl 6 rfl) ?_
        obtain ⟨r59, hcl, hm⟩ := bnd hm
        refine kSF [0] [] C X (kL_above l g a x48 c46 c47 na w50 r59 hcl) (cw_L_split_L_above_55 C) rfl (by decide) rfl (by decide) (by decide) (As := [.ref (a 0), .int x48, .int c46, .int c47]) rfl hl (rest := [.long (r57 * r58)]) rfl (Nat.le_of_ble_eq_true rfl) (st2 := [.long r59, .long (r57 * r58)]) rfl dL_split_95 ⟨Nat.le_of_ble_eq_true rfl, Nat.le_of_ble_eq_true rfl⟩ [0] (by decide) (w3 := wR g a na w50) rfl (fun H locs X => ?_)
        clear hcl
        refine lv_aload_n hx hb dL_split_98 rfl (lv_at hl 0 rfl) ?_
        refine lv_iload hx hb dL_split_99 (lv_at hl 8 rfl) ?_
        refine lv_iload hx hb dL_split_101 (lv_at hl 5 rfl) ?_
        refine lv_iload hx hb dL_split_103 (lv_at hl 6 rfl) ?_
        obtain ⟨r60, hcl, hm⟩ := bnd hm
        refine kSF [0] [] C X (kL_below l g a x49 c46 c47 na w50 r60 hcl) (cw_L_split_L_below_58 C) rfl (by decide) rfl (by decide) (by decide) (As := [.ref (a 0), .int x49, .int c46, .int c47]) rfl hl (rest := [.long r59, .long (r57 * r58)]) rfl (Nat.le_of_ble_eq_true rfl) (st2 := [.long r60, .long r59, .long (r57 * r58)]) rfl dL_split_105 ⟨Nat.le_of_ble_eq_true rfl, Nat.le_of_ble_eq_true rfl⟩ [0] (by decide) (w3 := wR g a na w50) rfl (fun H locs X => ?_)
        clear hcl
        refine lv_lmul hx hb dL_split_108 ?_
        refine klcmp_lt (tgt := 117) hx hb dL_split_109 dL_split_110 (by decide) (fun hc => ?_) (fun hc => ?_)
        · have hm := ifp hc hm
          refine lv_iconst (v := 0) hx hb dL_split_117 (by decide) ?_
          cases sm hm
          exact K _ _ _ X (lv_sub hl [0, 1, 2, 3, 4, 5, 6, 7, 8] rfl)
        · have hm := ifn hc hm
          refine lv_iconst (v := 1) hx hb dL_split_113 (by decide) ?_
          refine lv_goto (tgt := 118) hx hb dL_split_114 (by decide) ?_
          cases sm hm
          exact K _ _ _ X (lv_sub hl [0, 1, 2, 3, 4, 5, 6, 7, 8] rfl)
noncomputable def bL_split_19 (c8 : Int32) (w12 : (Nat → Int32)) (na : Nat) : Int32 × Int32 × Int32 → Option ((Int32 × Int32 × Int32) ⊕ (Int32 × Int32))
  | (x9, x10, x11) => if x11 < 0 then (some (.inr (x9, x10))) else (((if ((x9 >>> (x11 &&& 31)) &&& 1) = 0 then (some (x9, x10)) else ((fL_next x9 x11).bind fun r41 => (lL_split_55 x11 r41 w12 na (-1) (r41 - 1)).bind fun y62 => if y62 < 0 then (some (x9, x10)) else ((fL_above y62 x11 r41 na w12).bind fun r63 => (fL_below y62 x11 r41 na w12).bind fun r64 => if ((c8.toInt64 * c8.toInt64) * r64) < r63 then (some (x9 ||| (1 <<< (y62 &&& 31)), 1)) else (some (x9, x10))))) : Option (Int32 × Int32)).bind fun (v39, v40) => some (.inl (v39, v40, x11 + (-1))))
noncomputable def lL_split_19 (c8 : Int32) (w12 : (Nat → Int32)) (na : Nat) (x9 : Int32) (x10 : Int32) (x11 : Int32) : Option (Int32 × Int32) := lp (bL_split_19 c8 w12 na) (x9, x10, x11)
theorem lL_split_19_eq (c8 : Int32) (w12 : (Nat → Int32)) (na : Nat) (x9 : Int32) (x10 : Int32) (x11 : Int32) : lL_split_19 c8 w12 na x9 x10 x11 = (if x11 < 0 then (some (.inr (x9, x10))) else (((if ((x9 >>> (x11 &&& 31)) &&& 1) = 0 then (some (x9, x10)) else ((fL_next x9 x11).bind fun r41 => (lL_split_55 x11 r41 w12 na (-1) (r41 - 1)).bind fun y62 => if y62 < 0 then (some (x9, x10)) else ((fL_above y62 x11 r41 na w12).bind fun r63 => (fL_below y62 x11 r41 na w12).bind fun r64 => if ((c8.toInt64 * c8.toInt64) * r64) < r63 then (some (x9 ||| (1 <<< (y62 &&& 31)), 1)) else (some (x9, x10))))) : Option (Int32 × Int32)).bind fun (v39, v40) => some (.inl (v39, v40, x11 + (-1))))).bind fun r => Sum.elim (fun z => lL_split_19 c8 w12 na z.1 z.2.1 z.2.2) (fun r => some r) r := lp_eq (bL_split_19 c8 w12 na) (x9, x10, x11)
set_option maxRecDepth 100000 in
set_option maxHeartbeats 4000000 in
theorem tL_split_19 {p : Program} {l : Launch} {e : Env} {s : State} {m : MethodId} {args : Array Value} {below : List Frame} {meth : Method} {c : Code} {g : kG} {A : Nat → Prop} {Q : State → Prop} (a : Nat → Nat) (C : CT g p s m args meth c RL cL_split 11 (some .int) wsL_split A) (c7 : Int32) (c8 : Int32) (w12 : (Nat → Int32)) (na : Nat) (y13 : Int32) (y14 : Int32) (kk : ∀ (H : Heap) (locs : List Loc) (ls : Array Slot), ST g A s H locs (wR g a na w12) → lv_has ls 11 [(0, .ref (a 0)), (1, .int c7), (3, .int c8), (4, .int y13), (5, .int y14)] → W p l e rL_split s m args below meth c H locs 0 0 Q (F0 m 196 ls [])) : ∀ (n : Nat) (x9 : Int32) (x10 : Int32) (x11 : Int32), whl (bL_split_19 c8 w12 na) n (x9, x10, x11) = some (y13, y14) → ∀ (H : Heap) (locs : List Loc) (ls : Array Slot), ST g A s H locs (wR g a na w12) → lv_has ls 11 [(0, .ref (a 0)), (1, .int c7), (3, .int c8), (4, .int x9), (5, .int x10), (6, .int x11)] → W p l e rL_split s m args below meth c H locs 0 0 Q (F0 m 19 ls []) := by
  have hx := C.1
  have hb := C.2.1
  intro n
  induction n with
  | zero =>
    intro x9 x10 x11 hm
    cases hm
  | succ n ih =>
    intro x9 x10 x11 hm H locs ls X hl
    rw [whl] at hm
    obtain ⟨q, hq, hm2⟩ := bnd hm
    clear hm
    have hm := hq
    clear hq
    rw [bL_split_19] at hm
    refine lv_iload hx hb dL_split_19 (lv_at hl 5 rfl) ?_
    refine lv_if_lt (tgt := 196) hx hb dL_split_21 (by decide) (fun hc => ?_) (fun hc => ?_)
    · have hm := ifp hc hm
      cases sm hm
      cases sm hm2
      exact kk _ _ _ X (lv_sub hl [0, 1, 2, 3, 4] rfl)
    · have hm := ifn hc hm
      refine lv_iload hx hb dL_split_24 (lv_at hl 3 rfl) ?_
      refine lv_iload hx hb dL_split_26 (lv_at hl 5 rfl) ?_
      refine lv_ishr hx hb dL_split_28 ?_
      refine lv_iconst (v := 1) hx hb dL_split_29 (by decide) ?_
      refine lv_iand hx hb dL_split_30 ?_
      obtain ⟨⟨v39, v40⟩, hE, hm⟩ := bnd hm
      have K : ∀ (H : Heap) (locs : List Loc) (ls : Array Slot), ST g A s H locs (wR g a na w12) → lv_has ls 11 [(0, .ref (a 0)), (1, .int c7), (3, .int c8), (4, .int v39), (5, .int v40), (6, .int x11)] → W p l e rL_split s m args below meth c H locs 0 0 Q (F0 m 190 ls []) := by
        intro H locs ls X hl
        clear hE
        refine lv_iinc (v := x11 + (-1)) (lv' := [(6, .int (x11 + (-1))), (0, .ref (a 0)), (1, .int c7), (3, .int c8), (4, .int v39), (5, .int v40)]) hx hb dL_split_190 hl (k := 5) rfl rfl (by decide) rfl (fun ls hl => ?_)
        refine lv_goto (tgt := 19) hx hb dL_split_193 (by decide) ?_
        cases sm hm
        exact ih _ _ _ hm2 _ _ _ X (lv_sub hl [1, 2, 3, 4, 5, 0] rfl)
      clear hm
      have hm := hE
      clear hE
      refine lv_if_ne (tgt := 37) hx hb dL_split_31 (by decide) (fun hc => ?_) (fun hc => ?_)
      · have hm := ifn hc hm
        refine lv_iload hx hb dL_split_37 (lv_at hl 3 rfl) ?_
        refine lv_iload hx hb dL_split_39 (lv_at hl 5 rfl) ?_
        obtain ⟨r41, hcl, hm⟩ := bnd hm
        refine kS0 C X (kL_next l g x9 x11 r41 hcl) (cw_L_split_L_next_72 C) (As := [.int x9, .int x11]) rfl hl (rest := []) rfl (Nat.le_of_ble_eq_true rfl) (st2 := [.int r41]) rfl dL_split_41 ⟨Nat.le_of_ble_eq_true rfl, Nat.le_of_ble_eq_true rfl⟩ (fun H locs X => ?_)
        clear hcl
        refine lv_istore (lv' := [(7, .int r41), (0, .ref (a 0)), (1, .int c7), (3, .int c8), (4, .int x9), (5, .int x10), (6, .int x11)]) hx hb dL_split_44 hl (by decide) rfl (fun ls hl => ?_)
        refine lv_iconst (v := (-1)) hx hb dL_split_46 (by decide) ?_
        refine lv_istore (lv' := [(8, .int (-1)), (7, .int r41), (0, .ref (a 0)), (1, .int c7), (3, .int c8), (4, .int x9), (5, .int x10), (6, .int x11)]) hx hb dL_split_47 hl (by decide) rfl (fun ls hl => ?_)
        refine lv_iload hx hb dL_split_49 (lv_at hl 1 rfl) ?_
        refine lv_iconst (v := 1) hx hb dL_split_51 (by decide) ?_
        refine lv_isub hx hb dL_split_52 ?_
        refine lv_istore (lv' := [(9, .int (r41 - 1)), (8, .int (-1)), (7, .int r41), (0, .ref (a 0)), (1, .int c7), (3, .int c8), (4, .int x9), (5, .int x10), (6, .int x11)]) hx hb dL_split_53 hl (by decide) rfl (fun ls hl => ?_)
        obtain ⟨y62, hL, hm⟩ := bnd hm
        obtain ⟨nn, hn⟩ := lp_run hL
        refine tL_split_55 a C c7 c8 x9 x10 x11 r41 w12 na y62 (fun H locs ls X hl => ?_) nn _ _ hn _ _ _ X (lv_sub hl [3, 4, 5, 6, 7, 8, 2, 1, 0] rfl)
        clear hL hn
        refine lv_iload hx hb dL_split_140 (lv_at hl 7 rfl) ?_
        refine lv_if_lt (tgt := 190) hx hb dL_split_142 (by decide) (fun hc => ?_) (fun hc => ?_)
        · have hm := ifp hc hm
          cases sm hm
          exact K _ _ _ X (lv_sub hl [0, 1, 2, 3, 4, 5] rfl)
        · have hm := ifn hc hm
          refine lv_aload_n hx hb dL_split_145 rfl (lv_at hl 0 rfl) ?_
          refine lv_iload hx hb dL_split_146 (lv_at hl 7 rfl) ?_
          refine lv_iload hx hb dL_split_148 (lv_at hl 5 rfl) ?_
          refine lv_iload hx hb dL_split_150 (lv_at hl 6 rfl) ?_
          obtain ⟨r63, hcl, hm⟩ := bnd hm
          refine kSF [0] [] C X (kL_above l g a y62 x11 r41 na w12 r63 hcl) (cw_L_split_L_above_55 C) rfl (by decide) rfl (by decide) (by decide) (As := [.ref (a 0), .int y62, .int x11, .int r41]) rfl hl (rest := []) rfl (Nat.le_of_ble_eq_true rfl) (st2 := [.long r63]) rfl dL_split_152 ⟨Nat.le_of_ble_eq_true rfl, Nat.le_of_ble_eq_true rfl⟩ [0] (by decide) (w3 := wR g a na w12) rfl (fun H locs X => ?_)
          clear hcl
          refine lv_iload_n hx hb dL_split_155 rfl (lv_at hl 2 rfl) ?_
          refine lv_i2l (v := c8.toInt64) hx hb dL_split_156 rfl ?_
          refine lv_iload_n hx hb dL_split_157 rfl (lv_at hl 2 rfl) ?_
          refine lv_i2l (v := c8.toInt64) hx hb dL_split_158 rfl ?_
          refine lv_lmul hx hb dL_split_159 ?_
          refine lv_aload_n hx hb dL_split_160 rfl (lv_at hl 0 rfl) ?_
          refine lv_iload hx hb dL_split_161 (lv_at hl 7 rfl) ?_
          refine lv_iload hx hb dL_split_163 (lv_at hl 5 rfl) ?_
          refine lv_iload hx hb dL_split_165 (lv_at hl 6 rfl) ?_
          obtain ⟨r64, hcl, hm⟩ := bnd hm
          refine kSF [0] [] C X (kL_below l g a y62 x11 r41 na w12 r64 hcl) (cw_L_split_L_below_58 C) rfl (by decide) rfl (by decide) (by decide) (As := [.ref (a 0), .int y62, .int x11, .int r41]) rfl hl (rest := [.long (c8.toInt64 * c8.toInt64), .long r63]) rfl (Nat.le_of_ble_eq_true rfl) (st2 := [.long r64, .long (c8.toInt64 * c8.toInt64), .long r63]) rfl dL_split_167 ⟨Nat.le_of_ble_eq_true rfl, Nat.le_of_ble_eq_true rfl⟩ [0] (by decide) (w3 := wR g a na w12) rfl (fun H locs X => ?_)
          clear hcl
          refine lv_lmul hx hb dL_split_170 ?_
          refine klcmp_gt (tgt := 178) hx hb dL_split_171 dL_split_172 (by decide) (fun hc => ?_) (fun hc => ?_)
          · have hm := ifp hc hm
            refine lv_iload hx hb dL_split_178 (lv_at hl 3 rfl) ?_
            refine lv_iconst (v := 1) hx hb dL_split_180 (by decide) ?_
            refine lv_iload hx hb dL_split_181 (lv_at hl 7 rfl) ?_
            refine lv_ishl hx hb dL_split_183 ?_
            refine lv_ior hx hb dL_split_184 ?_
            refine lv_istore (lv' := [(4, .int (x9 ||| (1 <<< (y62 &&& 31)))), (0, .ref (a 0)), (1, .int c7), (3, .int c8), (5, .int x10), (6, .int x11), (7, .int r41), (8, .int y62)]) hx hb dL_split_185 hl (by decide) rfl (fun ls hl => ?_)
            refine lv_iconst (v := 1) hx hb dL_split_187 (by decide) ?_
            refine lv_istore (lv' := [(5, .int 1), (4, .int (x9 ||| (1 <<< (y62 &&& 31)))), (0, .ref (a 0)), (1, .int c7), (3, .int c8), (6, .int x11), (7, .int r41), (8, .int y62)]) hx hb dL_split_188 hl (by decide) rfl (fun ls hl => ?_)
            cases sm hm
            exact K _ _ _ X (lv_sub hl [2, 3, 4, 1, 0, 5] rfl)
          · have hm := ifn hc hm
            refine lv_goto (tgt := 190) hx hb dL_split_175 (by decide) ?_
            cases sm hm
            exact K _ _ _ X (lv_sub hl [0, 1, 2, 3, 4, 5] rfl)
      · have hm := ifp hc hm
        refine lv_goto (tgt := 190) hx hb dL_split_34 (by decide) ?_
        cases sm hm
        exact K _ _ _ X (lv_sub hl [0, 1, 2, 3, 4, 5] rfl)
noncomputable def bL_split_6 (c1 : Int32) (c2 : Int32) (w5 : (Nat → Int32)) (na : Nat) : Int32 × Int32 → Option ((Int32 × Int32) ⊕ (Int32))
  | (x3, x4) => if x4 = 0 then (some (.inr x3)) else ((lL_split_19 c2 w5 na x3 0 (c1 - 2)).bind fun (y65, y66) => some (.inl (y65, y66)))
noncomputable def lL_split_6 (c1 : Int32) (c2 : Int32) (w5 : (Nat → Int32)) (na : Nat) (x3 : Int32) (x4 : Int32) : Option (Int32) := lp (bL_split_6 c1 c2 w5 na) (x3, x4)
theorem lL_split_6_eq (c1 : Int32) (c2 : Int32) (w5 : (Nat → Int32)) (na : Nat) (x3 : Int32) (x4 : Int32) : lL_split_6 c1 c2 w5 na x3 x4 = (if x4 = 0 then (some (.inr x3)) else ((lL_split_19 c2 w5 na x3 0 (c1 - 2)).bind fun (y65, y66) => some (.inl (y65, y66)))).bind fun r => Sum.elim (fun z => lL_split_6 c1 c2 w5 na z.1 z.2) (fun r => some r) r := lp_eq (bL_split_6 c1 c2 w5 na) (x3, x4)
set_option maxRecDepth 100000 in
set_option maxHeartbeats 4000000 in
theorem tL_split_6 {p : Program} {l : Launch} {e : Env} {s : State} {m : MethodId} {args : Array Value} {below : List Frame} {meth : Method} {c : Code} {g : kG} {A : Nat → Prop} {Q : State → Prop} (a : Nat → Nat) (C : CT g p s m args meth c RL cL_split 11 (some .int) wsL_split A) (c1 : Int32) (c2 : Int32) (w5 : (Nat → Int32)) (na : Nat) (y6 : Int32) (kk : ∀ (H : Heap) (locs : List Loc) (ls : Array Slot), ST g A s H locs (wR g a na w5) → lv_has ls 11 [(4, .int y6)] → W p l e rL_split s m args below meth c H locs 0 0 Q (F0 m 199 ls [])) : ∀ (n : Nat) (x3 : Int32) (x4 : Int32), whl (bL_split_6 c1 c2 w5 na) n (x3, x4) = some y6 → ∀ (H : Heap) (locs : List Loc) (ls : Array Slot), ST g A s H locs (wR g a na w5) → lv_has ls 11 [(0, .ref (a 0)), (1, .int c1), (3, .int c2), (4, .int x3), (5, .int x4)] → W p l e rL_split s m args below meth c H locs 0 0 Q (F0 m 6 ls []) := by
  have hx := C.1
  have hb := C.2.1
  intro n
  induction n with
  | zero =>
    intro x3 x4 hm
    cases hm
  | succ n ih =>
    intro x3 x4 hm H locs ls X hl
    rw [whl] at hm
    obtain ⟨q, hq, hm2⟩ := bnd hm
    clear hm
    have hm := hq
    clear hq
    rw [bL_split_6] at hm
    refine lv_iload hx hb dL_split_6 (lv_at hl 4 rfl) ?_
    refine lv_if_eq (tgt := 199) hx hb dL_split_8 (by decide) (fun hc => ?_) (fun hc => ?_)
    · have hm := ifp hc hm
      cases sm hm
      cases sm hm2
      exact kk _ _ _ X (lv_sub hl [3] rfl)
    · have hm := ifn hc hm
      refine lv_iconst (v := 0) hx hb dL_split_11 (by decide) ?_
      refine lv_istore (lv' := [(5, .int 0), (0, .ref (a 0)), (1, .int c1), (3, .int c2), (4, .int x3)]) hx hb dL_split_12 hl (by decide) rfl (fun ls hl => ?_)
      refine lv_iload_n hx hb dL_split_14 rfl (lv_at hl 2 rfl) ?_
      refine lv_iconst (v := 2) hx hb dL_split_15 (by decide) ?_
      refine lv_isub hx hb dL_split_16 ?_
      refine lv_istore (lv' := [(6, .int (c1 - 2)), (5, .int 0), (0, .ref (a 0)), (1, .int c1), (3, .int c2), (4, .int x3)]) hx hb dL_split_17 hl (by decide) rfl (fun ls hl => ?_)
      obtain ⟨⟨y65, y66⟩, hL, hm⟩ := bnd hm
      obtain ⟨nn, hn⟩ := lp_run hL
      refine tL_split_19 a C c1 c2 w5 na y65 y66 (fun H locs ls X hl => ?_) nn _ _ _ hn _ _ _ X (lv_sub hl [2, 3, 4, 5, 1, 0] rfl)
      clear hL hn
      refine lv_goto (tgt := 6) hx hb dL_split_196 (by decide) ?_
      cases sm hm
      exact ih _ _ hm2 _ _ _ X (lv_sub hl [0, 1, 2, 3, 4] rfl)
noncomputable def fL_split (p1 : Int32) (p2 : Int32) (p3 : Int32) (na : Nat) (u : (Nat → Int32)) : Option (Int32) := (lL_split_6 p1 p3 u na p2 1).bind fun y67 => some y67
set_option maxRecDepth 100000 in
set_option maxHeartbeats 4000000 in
theorem kL_split (l : Launch) (g : kG) (a : Nat → Nat) (p1 : Int32) (p2 : Int32) (p3 : Int32) (na : Nat) (u : (Nat → Int32)) (o1 : Int32) (hm : fL_split p1 p2 p3 na u = some o1) : KM l yL_split wsL_split rL_split g [.ref (a 0), .int p1, .int p2, .int p3] (wR g a na u) (some (.int o1)) (wR g a na u) 0 0 := by
  refine KM.of (nL := 11) (by decide) rfl (Nat.le_of_ble_eq_true rfl) ?_
  intro p e s m args below meth c A ls C X hl
  have C : CT g p s m args meth c RL cL_split 11 (some .int) wsL_split A := C
  have hx := C.1
  have hb := C.2.1
  have hl : lv_has ls 11 [(0, .ref (a 0)), (1, .int p1), (2, .int p2), (3, .int p3)] := hl
  rw [fL_split] at hm
  refine lv_iload_n hx hb dL_split_0 rfl (lv_at hl 2 rfl) ?_
  refine lv_istore (lv' := [(4, .int p2), (0, .ref (a 0)), (1, .int p1), (2, .int p2), (3, .int p3)]) hx hb dL_split_1 hl (by decide) rfl (fun ls hl => ?_)
  refine lv_iconst (v := 1) hx hb dL_split_3 (by decide) ?_
  refine lv_istore (lv' := [(5, .int 1), (4, .int p2), (0, .ref (a 0)), (1, .int p1), (2, .int p2), (3, .int p3)]) hx hb dL_split_4 hl (by decide) rfl (fun ls hl => ?_)
  obtain ⟨y67, hL, hm⟩ := bnd hm
  obtain ⟨nn, hn⟩ := lp_run hL
  refine tL_split_6 a C p1 p3 u na y67 (fun H locs ls X hl => ?_) nn _ _ hn _ _ _ X (lv_sub hl [2, 3, 5, 1, 0] rfl)
  clear hL hn
  refine lv_iload hx hb dL_split_199 (lv_at hl 0 rfl) ?_
  cases sm hm
  exact kiret C X dL_split_201
