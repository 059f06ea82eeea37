-- L isSo(LBrushStrokes;I[III)Z
abbrev rL_isSo : Room := { frames := 7, cells := 0, slots := 0, locals := 164 }
theorem cw_L_isSo_X5_point_93 {p : Program} {s : State} {m : MethodId} {args : Array Value} {meth : Method} {c : Code} {g : kG} {A : Nat → Prop} (C : CT g p s m args meth c RL cL_isSo 18 (some .boolean) wsL_isSo A) : CallW rL_isSo s args RL RX5 93 yX5_point cX5_point 5 (some .int) wsX5_point rX5_point 0 0 3 := cwV 3 C.2.2.2.2.2.1 gL_isSo_X5_point rfl rfl rfl (by decide +kernel) ⟨Nat.le_of_ble_eq_true rfl, Nat.le_of_ble_eq_true rfl⟩
theorem cw_L_isSo_L_next_72 {p : Program} {s : State} {m : MethodId} {args : Array Value} {meth : Method} {c : Code} {g : kG} {A : Nat → Prop} (C : CT g p s m args meth c RL cL_isSo 18 (some .boolean) wsL_isSo A) : CallB rL_isSo s args RL 72 yL_next cL_next 3 (some .int) wsL_next rL_next 0 0 2 ∧ (Cond.static yL_next).before args s = true := cwS 2 C.2.2.2.2.2.1 gL_isSo_L_next rfl rfl rfl (by decide +kernel) ⟨Nat.le_of_ble_eq_true rfl, Nat.le_of_ble_eq_true rfl⟩
theorem cw_L_isSo_L_product_42 {p : Program} {s : State} {m : MethodId} {args : Array Value} {meth : Method} {c : Code} {g : kG} {A : Nat → Prop} (C : CT g p s m args meth c RL cL_isSo 18 (some .boolean) wsL_isSo A) : CallB rL_isSo s args RL 42 yL_product cL_product 5 (some .long) wsL_product rL_product 0 0 5 ∧ (Cond.static yL_product).before args s = true := cwS 5 C.2.2.2.2.2.1 gL_isSo_L_product rfl rfl rfl (by decide +kernel) ⟨Nat.le_of_ble_eq_true rfl, Nat.le_of_ble_eq_true rfl⟩
theorem cw_L_isSo_L_root_61 {p : Program} {s : State} {m : MethodId} {args : Array Value} {meth : Method} {c : Code} {g : kG} {A : Nat → Prop} (C : CT g p s m args meth c RL cL_isSo 18 (some .boolean) wsL_isSo A) : CallB rL_isSo s args RL 61 yL_root cL_root 5 (some .int) wsL_root rL_root 0 0 1 ∧ (Cond.static yL_root).before args s = true := cwS 1 C.2.2.2.2.2.1 gL_isSo_L_root rfl rfl rfl (by decide +kernel) ⟨Nat.le_of_ble_eq_true rfl, Nat.le_of_ble_eq_true rfl⟩
theorem cw_L_isSo_L_last_69 {p : Program} {s : State} {m : MethodId} {args : Array Value} {meth : Method} {c : Code} {g : kG} {A : Nat → Prop} (C : CT g p s m args meth c RL cL_isSo 18 (some .boolean) wsL_isSo A) : CallB rL_isSo s args RL 69 yL_last cL_last 3 (some .int) wsL_last rL_last 0 0 2 ∧ (Cond.static yL_last).before args s = true := cwS 2 C.2.2.2.2.2.1 gL_isSo_L_last rfl rfl rfl (by decide +kernel) ⟨Nat.le_of_ble_eq_true rfl, Nat.le_of_ble_eq_true rfl⟩
theorem cw_L_isSo_X5_setting_82 {p : Program} {s : State} {m : MethodId} {args : Array Value} {meth : Method} {c : Code} {g : kG} {A : Nat → Prop} (C : CT g p s m args meth c RL cL_isSo 18 (some .boolean) wsL_isSo A) : CallW rL_isSo s args RL RX5 82 yX5_setting cX5_setting 2 (some .int) wsX5_setting rX5_setting 0 0 1 := cwV 1 C.2.2.2.2.2.1 gL_isSo_X5_setting rfl rfl rfl (by decide +kernel) ⟨Nat.le_of_ble_eq_true rfl, Nat.le_of_ble_eq_true rfl⟩
theorem cw_L_isSo_L_isSharp_65 {p : Program} {s : State} {m : MethodId} {args : Array Value} {meth : Method} {c : Code} {g : kG} {A : Nat → Prop} (C : CT g p s m args meth c RL cL_isSo 18 (some .boolean) wsL_isSo A) : CallB rL_isSo s args RL 65 yL_isSharp cL_isSharp 9 (some .boolean) wsL_isSharp rL_isSharp 0 0 5 ∧ (Cond.static yL_isSharp).before args s = true := cwS 5 C.2.2.2.2.2.1 gL_isSo_L_isSharp rfl rfl rfl (by decide +kernel) ⟨Nat.le_of_ble_eq_true rfl, Nat.le_of_ble_eq_true rfl⟩
theorem cw_L_isSo_L_isPair_97 {p : Program} {s : State} {m : MethodId} {args : Array Value} {meth : Method} {c : Code} {g : kG} {A : Nat → Prop} (C : CT g p s m args meth c RL cL_isSo 18 (some .boolean) wsL_isSo A) : CallB rL_isSo s args RL 97 yL_isPair cL_isPair 13 (some .boolean) wsL_isPair rL_isPair 0 0 5 ∧ (Cond.static yL_isPair).before args s = true := cwS 5 C.2.2.2.2.2.1 gL_isSo_L_isPair rfl rfl rfl (by decide +kernel) ⟨Nat.le_of_ble_eq_true rfl, Nat.le_of_ble_eq_true rfl⟩
theorem cw_L_isSo_L_fixed_85 {p : Program} {s : State} {m : MethodId} {args : Array Value} {meth : Method} {c : Code} {g : kG} {A : Nat → Prop} (C : CT g p s m args meth c RL cL_isSo 18 (some .boolean) wsL_isSo A) : CallB rL_isSo s args RL 85 yL_fixed cL_fixed 6 (some .int) wsL_fixed rL_fixed 0 0 5 ∧ (Cond.static yL_fixed).before args s = true := cwS 5 C.2.2.2.2.2.1 gL_isSo_L_fixed rfl rfl rfl (by decide +kernel) ⟨Nat.le_of_ble_eq_true rfl, Nat.le_of_ble_eq_true rfl⟩
theorem cw_L_isSo_X5_strokeOf_100 {p : Program} {s : State} {m : MethodId} {args : Array Value} {meth : Method} {c : Code} {g : kG} {A : Nat → Prop} (C : CT g p s m args meth c RL cL_isSo 18 (some .boolean) wsL_isSo A) : CallW rL_isSo s args RL RX5 100 yX5_strokeOf cX5_strokeOf 4 (some .int) wsX5_strokeOf rX5_strokeOf 0 0 2 := cwV 2 C.2.2.2.2.2.1 gL_isSo_X5_strokeOf rfl rfl rfl (by decide +kernel) ⟨Nat.le_of_ble_eq_true rfl, Nat.le_of_ble_eq_true rfl⟩
theorem cw_L_isSo_L_ones_75 {p : Program} {s : State} {m : MethodId} {args : Array Value} {meth : Method} {c : Code} {g : kG} {A : Nat → Prop} (C : CT g p s m args meth c RL cL_isSo 18 (some .boolean) wsL_isSo A) : CallB rL_isSo s args RL 75 yL_ones cL_ones 3 (some .int) wsL_ones rL_ones 0 0 1 ∧ (Cond.static yL_ones).before args s = true := cwS 1 C.2.2.2.2.2.1 gL_isSo_L_ones rfl rfl rfl (by decide +kernel) ⟨Nat.le_of_ble_eq_true rfl, Nat.le_of_ble_eq_true rfl⟩
theorem cw_L_isSo_X5_crossings_103 {p : Program} {s : State} {m : MethodId} {args : Array Value} {meth : Method} {c : Code} {g : kG} {A : Nat → Prop} (C : CT g p s m args meth c RL cL_isSo 18 (some .boolean) wsL_isSo A) : CallW rL_isSo s args RL RX5 103 yX5_crossings cX5_crossings 2 (some .int) wsX5_crossings rX5_crossings 0 0 1 := cwV 1 C.2.2.2.2.2.1 gL_isSo_X5_crossings rfl rfl rfl (by decide +kernel) ⟨Nat.le_of_ble_eq_true rfl, Nat.le_of_ble_eq_true rfl⟩
theorem cw_L_isSo_L_hundredths_89 {p : Program} {s : State} {m : MethodId} {args : Array Value} {meth : Method} {c : Code} {g : kG} {A : Nat → Prop} (C : CT g p s m args meth c RL cL_isSo 18 (some .boolean) wsL_isSo A) : CallB rL_isSo s args RL 89 yL_hundredths cL_hundredths 4 (some .int) wsL_hundredths rL_hundredths 0 0 4 ∧ (Cond.static yL_hundredths).before args s = true := cwS 4 C.2.2.2.2.2.1 gL_isSo_L_hundredths rfl rfl rfl (by decide +kernel) ⟨Nat.le_of_ble_eq_true rfl, Nat.le_of_ble_eq_true rfl⟩
noncomputable def bL_isSo_385 (c67 : Int32) (c68 : Int32) (c77 : Int32) (c78 : Int32) (w86 : (Nat → Int32)) (na : Nat) : Int32 × Int32 → Option ((Int32 × Int32) ⊕ (Int32))
  | (x76, x79) => if c77 ≤ x79 then (some (.inr x76)) else (if c78 = 0 then (some (.inr x76)) else (if (c67 - 1) ≤ c77 then (some (.inr x76)) else (((if ((c68 >>> (x79 &&& 31)) &&& 1) = 1 then ((fL_next c68 x79).bind fun r93 => if c77 ≤ r93 then (some 0) else ((fL_next c68 x79).bind fun r94 => (fL_next c68 c77).bind fun r95 => (fL_isPair x79 r94 c77 r95 na w86).bind fun r96 => if r96 = 0 then (some 0) else (some 1))) else (some 0)) : Option (Int32)).bind fun v92 => some (.inl (x76 + v92, x79 + 1)))))
noncomputable def lL_isSo_385 (c67 : Int32) (c68 : Int32) (c77 : Int32) (c78 : Int32) (w86 : (Nat → Int32)) (na : Nat) (x76 : Int32) (x79 : Int32) : Option (Int32) := lp (bL_isSo_385 c67 c68 c77 c78 w86 na) (x76, x79)
theorem lL_isSo_385_eq (c67 : Int32) (c68 : Int32) (c77 : Int32) (c78 : Int32) (w86 : (Nat → Int32)) (na : Nat) (x76 : Int32) (x79 : Int32) : lL_isSo_385 c67 c68 c77 c78 w86 na x76 x79 = (if c77 ≤ x79 then (some (.inr x76)) else (if c78 = 0 then (some (.inr x76)) else (if (c67 - 1) ≤ c77 then (some (.inr x76)) else (((if ((c68 >>> (x79 &&& 31)) &&& 1) = 1 then ((fL_next c68 x79).bind fun r93 => if c77 ≤ r93 then (some 0) else ((fL_next c68 x79).bind fun r94 => (fL_next c68 c77).bind fun r95 => (fL_isPair x79 r94 c77 r95 na w86).bind fun r96 => if r96 = 0 then (some 0) else (some 1))) else (some 0)) : Option (Int32)).bind fun v92 => some (.inl (x76 + v92, x79 + 1)))))).bind fun r => Sum.elim (fun z => lL_isSo_385 c67 c68 c77 c78 w86 na z.1 z.2) (fun r => some r) r := lp_eq (bL_isSo_385 c67 c68 c77 c78 w86 na) (x76, x79)
set_option maxRecDepth 100000 in
set_option maxHeartbeats 4000000 in
theorem tL_isSo_385 {p : Program} {l : Launch} {e : Env} {s : State} {m : MethodId} {args : Array Value} {below : List Frame} {meth : Method} {c : Code} {g : kG} {A : Nat → Prop} {Q : State → Prop} (D : Nat → Nat → Nat) (R : kAd) (a : Nat → Nat) (C : CT g p s m args meth c RL cL_isSo 18 (some .boolean) wsL_isSo A) (c66 : Int32) (c67 : Int32) (c68 : Int32) (c69 : Int32) (c70 : Int32) (c71 : Int32) (c72 : Int32) (c73 : Int32) (c74 : Int32) (c75 : Int32) (c77 : Int32) (c78 : Int32) (w80 : ShS) (w81 : TS) (w82 : SS) (w83 : PS) (w84 : HS) (w85 : NS) (w86 : (Nat → Int32)) (na : Nat) (y87 : Int32) (kk : ∀ (H : Heap) (locs : List Loc) (ls : Array Slot), ST g A s H locs (wR g a na w86 ++ wB g D R w80 w81 w82 w83 w84 w85) → lv_has ls 18 [(0, .ref (D 0 0)), (1, .int c66), (2, .ref (a 0)), (3, .int c67), (4, .int c68), (5, .int c69), (6, .int c70), (7, .int c71), (8, .int c72), (9, .int c73), (10, .int c74), (11, .int c75), (12, .int y87), (13, .int c77)] → W p l e rL_isSo s m args below meth c H locs 0 0 Q (F0 m 469 ls [])) : ∀ (n : Nat) (x76 : Int32) (x79 : Int32), whl (bL_isSo_385 c67 c68 c77 c78 w86 na) n (x76, x79) = some y87 → ∀ (H : Heap) (locs : List Loc) (ls : Array Slot), ST g A s H locs (wR g a na w86 ++ wB g D R w80 w81 w82 w83 w84 w85) → lv_has ls 18 [(0, .ref (D 0 0)), (1, .int c66), (2, .ref (a 0)), (3, .int c67), (4, .int c68), (5, .int c69), (6, .int c70), (7, .int c71), (8, .int c72), (9, .int c73), (10, .int c74), (11, .int c75), (12, .int x76), (13, .int c77), (15, .int c78), (17, .int x79)] → W p l e rL_isSo s m args below meth c H locs 0 0 Q (F0 m 385 ls []) := by
  have hx := C.1
  have hb := C.2.1
  intro n
  induction n with
  | zero =>
    intro x76 x79 hm
    cases hm
  | succ n ih =>
    intro x76 x79 hm H locs ls X hl
    rw [whl] at hm
    obtain ⟨q, hq, hm2⟩ := bnd hm
    clear hm
    have hm := hq
    clear hq
    rw [bL_isSo_385] at hm
    refine lv_iload hx hb dL_isSo_385 (lv_at hl 15 rfl) ?_
    refine lv_iload hx hb dL_isSo_387 (lv_at hl 13 rfl) ?_
    refine lv_icmp_ge (tgt := 469) hx hb dL_isSo_389 (by decide) (fun hc => ?_) (fun hc => ?_)
    · have hm := ifp hc hm
      cases sm hm
      cases sm hm2
      exact kk _ _ _ X (lv_sub hl [0, 1, 2, 3, 4, 5, 6, 7, 8, 9, 10, 11, 12, 13] rfl)
    · have hm := ifn hc hm
      refine lv_iload hx hb dL_isSo_392 (lv_at hl 14 rfl) ?_
      refine lv_if_eq (tgt := 469) hx hb dL_isSo_394 (by decide) (fun hc => ?_) (fun hc => ?_)
      · have hm := ifp hc hm
        cases sm hm
        cases sm hm2
        exact kk _ _ _ X (lv_sub hl [0, 1, 2, 3, 4, 5, 6, 7, 8, 9, 10, 11, 12, 13] rfl)
      · have hm := ifn hc hm
        refine lv_iload hx hb dL_isSo_397 (lv_at hl 13 rfl) ?_
        refine lv_iload_n hx hb dL_isSo_399 rfl (lv_at hl 3 rfl) ?_
        refine lv_iconst (v := 1) hx hb dL_isSo_400 (by decide) ?_
        refine lv_isub hx hb dL_isSo_401 ?_
        refine lv_icmp_ge (tgt := 469) hx hb dL_isSo_402 (by decide) (fun hc => ?_) (fun hc => ?_)
        · have hm := ifp hc hm
          cases sm hm
          cases sm hm2
          exact kk _ _ _ X (lv_sub hl [0, 1, 2, 3, 4, 5, 6, 7, 8, 9, 10, 11, 12, 13] rfl)
        · have hm := ifn hc hm
          refine lv_iload hx hb dL_isSo_405 (lv_at hl 12 rfl) ?_
          refine lv_iload hx hb dL_isSo_407 (lv_at hl 4 rfl) ?_
          refine lv_iload hx hb dL_isSo_409 (lv_at hl 15 rfl) ?_
          refine lv_ishr hx hb dL_isSo_411 ?_
          refine lv_iconst (v := 1) hx hb dL_isSo_412 (by decide) ?_
          refine lv_iand hx hb dL_isSo_413 ?_
          refine lv_iconst (v := 1) hx hb dL_isSo_414 (by decide) ?_
          obtain ⟨v92, hE, hm⟩ := bnd hm
          have K : ∀ (H : Heap) (locs : List Loc) (ls : Array Slot), ST g A s H locs (wR g a na w86 ++ wB g D R w80 w81 w82 w83 w84 w85) → lv_has ls 18 [(0, .ref (D 0 0)), (1, .int c66), (2, .ref (a 0)), (3, .int c67), (4, .int c68), (5, .int c69), (6, .int c70), (7, .int c71), (8, .int c72), (9, .int c73), (10, .int c74), (11, .int c75), (13, .int c77), (15, .int c78), (17, .int x79)] → W p l e rL_isSo s m args below meth c H locs 0 0 Q (F0 m 460 ls [.int v92, .int x76]) := by
            intro H locs ls X hl
            clear hE
            refine lv_iadd hx hb dL_isSo_460 ?_
            refine lv_istore (lv' := [(12, .int (x76 + v92)), (0, .ref (D 0 0)), (1, .int c66), (2, .ref (a 0)), (3, .int c67), (4, .int c68), (5, .int c69), (6, .int c70), (7, .int c71), (8, .int c72), (9, .int c73), (10, .int c74), (11, .int c75), (13, .int c77), (15, .int c78), (17, .int x79)]) hx hb dL_isSo_461 hl (by decide) rfl (fun ls hl => ?_)
            refine lv_iinc (v := x79 + 1) (lv' := [(17, .int (x79 + 1)), (12, .int (x76 + v92)), (0, .ref (D 0 0)), (1, .int c66), (2, .ref (a 0)), (3, .int c67), (4, .int c68), (5, .int c69), (6, .int c70), (7, .int c71), (8, .int c72), (9, .int c73), (10, .int c74), (11, .int c75), (13, .int c77), (15, .int c78)]) hx hb dL_isSo_463 hl (k := 15) rfl rfl (by decide) rfl (fun ls hl => ?_)
            refine lv_goto (tgt := 385) hx hb dL_isSo_466 (by decide) ?_
            cases sm hm
            exact ih _ _ hm2 _ _ _ X (lv_sub hl [2, 3, 4, 5, 6, 7, 8, 9, 10, 11, 12, 13, 1, 14, 15, 0] rfl)
          clear hm
          have hm := hE
          clear hE
          refine lv_icmp_ne (tgt := 459) hx hb dL_isSo_415 (by decide) (fun hc => ?_) (fun hc => ?_)
          · have hm := ifn hc hm
            refine lv_iconst (v := 0) hx hb dL_isSo_459 (by decide) ?_
            cases sm hm
            exact K _ _ _ X (lv_sub hl [0, 1, 2, 3, 4, 5, 6, 7, 8, 9, 10, 11, 13, 14, 15] rfl)
          · have hm := ifp hc hm
            refine lv_iload hx hb dL_isSo_418 (lv_at hl 4 rfl) ?_
            refine lv_iload hx hb dL_isSo_420 (lv_at hl 15 rfl) ?_
            obtain ⟨r93, hcl, hm⟩ := bnd hm
            refine kS0c C X (kL_next l g c68 x79 r93 hcl) (cw_L_isSo_L_next_72 C) (As := [.int c68, .int x79]) rfl hl (rest := [.int x76]) rfl (Nat.le_of_ble_eq_true rfl) (st2 := [.int r93, .int x76]) rfl dL_isSo_422 ⟨Nat.le_of_ble_eq_true rfl, Nat.le_of_ble_eq_true rfl⟩ (fun H locs X => ?_)
            clear hcl
            refine lv_iload hx hb dL_isSo_425 (lv_at hl 13 rfl) ?_
            refine lv_icmp_ge (tgt := 459) hx hb dL_isSo_427 (by decide) (fun hc => ?_) (fun hc => ?_)
            · have hm := ifp hc hm
              refine lv_iconst (v := 0) hx hb dL_isSo_459 (by decide) ?_
              cases sm hm
              exact K _ _ _ X (lv_sub hl [0, 1, 2, 3, 4, 5, 6, 7, 8, 9, 10, 11, 13, 14, 15] rfl)
            · have hm := ifn hc hm
              refine lv_aload_n hx hb dL_isSo_430 rfl (lv_at hl 2 rfl) ?_
              refine lv_iload hx hb dL_isSo_431 (lv_at hl 15 rfl) ?_
              refine lv_iload hx hb dL_isSo_433 (lv_at hl 4 rfl) ?_
              refine lv_iload hx hb dL_isSo_435 (lv_at hl 15 rfl) ?_
              obtain ⟨r94, hcl, hm⟩ := bnd hm
              refine kS0c C X (kL_next l g c68 x79 r94 hcl) (cw_L_isSo_L_next_72 C) (As := [.int c68, .int x79]) rfl hl (rest := [.int x79, .ref (a 0), .int x76]) rfl (Nat.le_of_ble_eq_true rfl) (st2 := [.int r94, .int x79, .ref (a 0), .int x76]) rfl dL_isSo_437 ⟨Nat.le_of_ble_eq_true rfl, Nat.le_of_ble_eq_true rfl⟩ (fun H locs X => ?_)
              clear hcl
              refine lv_iload hx hb dL_isSo_440 (lv_at hl 13 rfl) ?_
              refine lv_iload hx hb dL_isSo_442 (lv_at hl 4 rfl) ?_
              refine lv_iload hx hb dL_isSo_444 (lv_at hl 13 rfl) ?_
              obtain ⟨r95, hcl, hm⟩ := bnd hm
              refine kS0c C X (kL_next l g c68 c77 r95 hcl) (cw_L_isSo_L_next_72 C) (As := [.int c68, .int c77]) rfl hl (rest := [.int c77, .int r94, .int x79, .ref (a 0), .int x76]) rfl (Nat.le_of_ble_eq_true rfl) (st2 := [.int r95, .int c77, .int r94, .int x79, .ref (a 0), .int x76]) rfl dL_isSo_446 ⟨Nat.le_of_ble_eq_true rfl, Nat.le_of_ble_eq_true rfl⟩ (fun H locs X => ?_)
              clear hcl
              obtain ⟨r96, hcl, hm⟩ := bnd hm
              refine kSp _ (List.Perm.refl _) C X (kL_isPair l g a x79 r94 c77 r95 na w86 r96 hcl) (cw_L_isSo_L_isPair_97 C) (As := [.ref (a 0), .int x79, .int r94, .int c77, .int r95]) rfl hl (rest := [.int x76]) rfl (Nat.le_of_ble_eq_true rfl) (st2 := [.int r96, .int x76]) rfl dL_isSo_449 ⟨Nat.le_of_ble_eq_true rfl, Nat.le_of_ble_eq_true rfl⟩ (w3 := wR g a na w86 ++ wB g D R w80 w81 w82 w83 w84 w85) List.perm_append_comm (fun H locs X => ?_)
              clear hcl
              refine lv_if_eq (tgt := 459) hx hb dL_isSo_452 (by decide) (fun hc => ?_) (fun hc => ?_)
              · have hm := ifp hc hm
                refine lv_iconst (v := 0) hx hb dL_isSo_459 (by decide) ?_
                cases sm hm
                exact K _ _ _ X (lv_sub hl [0, 1, 2, 3, 4, 5, 6, 7, 8, 9, 10, 11, 13, 14, 15] rfl)
              · have hm := ifn hc hm
                refine lv_iconst (v := 1) hx hb dL_isSo_455 (by decide) ?_
                refine lv_goto (tgt := 460) hx hb dL_isSo_456 (by decide) ?_
                cases sm hm
                exact K _ _ _ X (lv_sub hl [0, 1, 2, 3, 4, 5, 6, 7, 8, 9, 10, 11, 13, 14, 15] rfl)
noncomputable def bL_isSo_27 (c1 : Int32) (c2 : Int32) (c3 : Int32) (w13 : ShS) (w19 : (Nat → Int32)) (na : Nat) : Int32 × Int32 × Int32 × Int32 × Int32 × Int32 × Int32 × Int32 × Int32 → Option ((Int32 × Int32 × Int32 × Int32 × Int32 × Int32 × Int32 × Int32 × Int32) ⊕ (Int32 × Int32 × Int32 × Int32 × Int32 × Int32 × Int32))
  | (x4, x5, x6, x7, x8, x9, x10, x11, x12) => if c2 ≤ x12 then (some (.inr (x5, x6, x7, x8, x9, x10, x11))) else ((fX5_setting 1 w13).bind fun r27 => (fX5_setting 2 w13).bind fun r28 => (fL_fixed c2 x12 r27 r28 na w19).bind fun r29 => ((if ((c3 >>> (x12 &&& 31)) &&& 1) = 1 then (some 1) else (some 0)) : Option (Int32)).bind fun v30 => ((if v30 = 0 then ((fL_last c3 x12).bind fun r35 => (fL_next c3 x12).bind fun r36 => (fL_hundredths x12 r35 r36 na w19).bind fun r37 => some r37) else (some 0)) : Option (Int32)).bind fun v34 => (fX5_point c1 x12 0 w13).bind fun r38 => gd (inb (3 * x12) na) (if r38 = (w19 (3 * x12).toNatClampNeg) then ((fX5_point c1 x12 1 w13).bind fun r39 => gd (inb ((3 * x12) + 1) na) (if r39 = (w19 ((3 * x12) + 1).toNatClampNeg) then ((fX5_point c1 x12 2 w13).bind fun r40 => gd (inb ((3 * x12) + 2) na) (if r40 = (w19 ((3 * x12) + 2).toNatClampNeg) then ((fX5_point c1 x12 3 w13).bind fun r41 => ((if v30 = 0 then (some 0) else (some 1)) : Option (Int32)).bind fun v42 => if r41 = v42 then ((fX5_point c1 x12 4 w13).bind fun r43 => if r43 = r29 then ((fX5_point c1 x12 5 w13).bind fun r44 => if r44 = v34 then (((if r29 ≤ 0 then (some 0) else (some (1 <<< (x12 &&& 31)))) : Option (Int32)).bind fun v45 => ((if v34 ≤ x7 then (some x8) else (some x12)) : Option (Int32)).bind fun v46 => ((if v34 ≤ x7 then (some x7) else (some v34)) : Option (Int32)).bind fun v47 => ((if v30 = 0 then (some 0) else (if (c2 - 1) ≤ x12 then (some 0) else ((fL_next c3 x12).bind fun r53 => (fL_next c3 x12).bind fun r54 => (fL_product x12 r53 x12 r54 na w19).bind fun r55 => (fL_root (10000 * r55)).bind fun r56 => some r56))) : Option (Int32)).bind fun v52 => ((if v30 = 0 then (some 0) else (if x12 ≤ 0 then (some 0) else (if (c2 - 1) ≤ x12 then (some 0) else ((fL_last c3 x12).bind fun r62 => (fL_next c3 x12).bind fun r63 => (fX5_setting 3 w13).bind fun r64 => (fL_isSharp r62 x12 r63 r64 na w19).bind fun r65 => if r65 = 0 then (some 0) else (some 1))))) : Option (Int32)).bind fun v61 => (lL_isSo_385 c2 c3 x12 v30 w19 na x11 0).bind fun y97 => some (.inl (x4 ||| v45, x5 + ((r29 >>> (1 &&& 31)) &&& 1), x6 + (r29 >>> (2 &&& 31)), v47, v46, x9 + v52, x10 + v61, y97, x12 + 1))) else none) else none) else none) else none)) else none)) else none))
noncomputable def lL_isSo_27 (c1 : Int32) (c2 : Int32) (c3 : Int32) (w13 : ShS) (w19 : (Nat → Int32)) (na : Nat) (x4 : Int32) (x5 : Int32) (x6 : Int32) (x7 : Int32) (x8 : Int32) (x9 : Int32) (x10 : Int32) (x11 : Int32) (x12 : Int32) : Option (Int32 × Int32 × Int32 × Int32 × Int32 × Int32 × Int32) := lp (bL_isSo_27 c1 c2 c3 w13 w19 na) (x4, x5, x6, x7, x8, x9, x10, x11, x12)
theorem lL_isSo_27_eq (c1 : Int32) (c2 : Int32) (c3 : Int32) (w13 : ShS) (w19 : (Nat → Int32)) (na : Nat) (x4 : Int32) (x5 : Int32) (x6 : Int32) (x7 : Int32) (x8 : Int32) (x9 : Int32) (x10 : Int32) (x11 : Int32) (x12 : Int32) : lL_isSo_27 c1 c2 c3 w13 w19 na x4 x5 x6 x7 x8 x9 x10 x11 x12 = (if c2 ≤ x12 then (some (.inr (x5, x6, x7, x8, x9, x10, x11))) else ((fX5_setting 1 w13).bind fun r27 => (fX5_setting 2 w13).bind fun r28 => (fL_fixed c2 x12 r27 r28 na w19).bind fun r29 => ((if ((c3 >>> (x12 &&& 31)) &&& 1) = 1 then (some 1) else (some 0)) : Option (Int32)).bind fun v30 => ((if v30 = 0 then ((fL_last c3 x12).bind fun r35 => (fL_next c3 x12).bind fun r36 => (fL_hundredths x12 r35 r36 na w19).bind fun r37 => some r37) else (some 0)) : Option (Int32)).bind fun v34 => (fX5_point c1 x12 0 w13).bind fun r38 => gd (inb (3 * x12) na) (if r38 = (w19 (3 * x12).toNatClampNeg) then ((fX5_point c1 x12 1 w13).bind fun r39 => gd (inb ((3 * x12) + 1) na) (if r39 = (w19 ((3 * x12) + 1).toNatClampNeg) then ((fX5_point c1 x12 2 w13).bind fun r40 => gd (inb ((3 * x12) + 2) na) (if r40 = (w19 ((3 * x12) + 2).toNatClampNeg) then ((fX5_point c1 x12 3 w13).bind fun r41 => ((if v30 = 0 then (some 0) else (some 1)) : Option (Int32)).bind fun v42 => if r41 = v42 then ((fX5_point c1 x12 4 w13).bind fun r43 => if r43 = r29 then ((fX5_point c1 x12 5 w13).bind fun r44 => if r44 = v34 then (((if r29 ≤ 0 then (some 0) else (some (1 <<< (x12 &&& 31)))) : Option (Int32)).bind fun v45 => ((if v34 ≤ x7 then (some x8) else (some x12)) : Option (Int32)).bind fun v46 => ((if v34 ≤ x7 then (some x7) else (some v34)) : Option (Int32)).bind fun v47 => ((if v30 = 0 then (some 0) else (if (c2 - 1) ≤ x12 then (some 0) else ((fL_next c3 x12).bind fun r53 => (fL_next c3 x12).bind fun r54 => (fL_product x12 r53 x12 r54 na w19).bind fun r55 => (fL_root (10000 * r55)).bind fun r56 => some r56))) : Option (Int32)).bind fun v52 => ((if v30 = 0 then (some 0) else (if x12 ≤ 0 then (some 0) else (if (c2 - 1) ≤ x12 then (some 0) else ((fL_last c3 x12).bind fun r62 => (fL_next c3 x12).bind fun r63 => (fX5_setting 3 w13).bind fun r64 => (fL_isSharp r62 x12 r63 r64 na w19).bind fun r65 => if r65 = 0 then (some 0) else (some 1))))) : Option (Int32)).bind fun v61 => (lL_isSo_385 c2 c3 x12 v30 w19 na x11 0).bind fun y97 => some (.inl (x4 ||| v45, x5 + ((r29 >>> (1 &&& 31)) &&& 1), x6 + (r29 >>> (2 &&& 31)), v47, v46, x9 + v52, x10 + v61, y97, x12 + 1))) else none) else none) else none) else none)) else none)) else none))).bind fun r => Sum.elim (fun z => lL_isSo_27 c1 c2 c3 w13 w19 na z.1 z.2.1 z.2.2.1 z.2.2.2.1 z.2.2.2.2.1 z.2.2.2.2.2.1 z.2.2.2.2.2.2.1 z.2.2.2.2.2.2.2.1 z.2.2.2.2.2.2.2.2) (fun r => some r) r := lp_eq (bL_isSo_27 c1 c2 c3 w13 w19 na) (x4, x5, x6, x7, x8, x9, x10, x11, x12)
set_option maxRecDepth 100000 in
set_option maxHeartbeats 4000000 in
theorem tL_isSo_27 {p : Program} {l : Launch} {e : Env} {s : State} {m : MethodId} {args : Array Value} {below : List Frame} {meth : Method} {c : Code} {g : kG} {A : Nat → Prop} {Q : State → Prop} (D : Nat → Nat → Nat) (R : kAd) (a : Nat → Nat) (C : CT g p s m args meth c RL cL_isSo 18 (some .boolean) wsL_isSo A) (c1 : Int32) (c2 : Int32) (c3 : Int32) (w13 : ShS) (w14 : TS) (w15 : SS) (w16 : PS) (w17 : HS) (w18 : NS) (w19 : (Nat → Int32)) (na : Nat) (y20 : Int32) (y21 : Int32) (y22 : Int32) (y23 : Int32) (y24 : Int32) (y25 : Int32) (y26 : Int32) (kk : ∀ (H : Heap) (locs : List Loc) (ls : Array Slot), ST g A s H locs (wR g a na w19 ++ wB g D R w13 w14 w15 w16 w17 w18) → lv_has ls 18 [(0, .ref (D 0 0)), (1, .int c1), (3, .int c2), (4, .int c3), (6, .int y20), (7, .int y21), (8, .int y22), (9, .int y23), (10, .int y24), (11, .int y25), (12, .int y26)] → W p l e rL_isSo s m args below meth c H locs 0 0 Q (F0 m 475 ls [])) : ∀ (n : Nat) (x4 : Int32) (x5 : Int32) (x6 : Int32) (x7 : Int32) (x8 : Int32) (x9 : Int32) (x10 : Int32) (x11 : Int32) (x12 : Int32), whl (bL_isSo_27 c1 c2 c3 w13 w19 na) n (x4, x5, x6, x7, x8, x9, x10, x11, x12) = some (y20, y21, y22, y23, y24, y25, y26) → ∀ (H : Heap) (locs : List Loc) (ls : Array Slot), ST g A s H locs (wR g a na w19 ++ wB g D R w13 w14 w15 w16 w17 w18) → lv_has ls 18 [(0, .ref (D 0 0)), (1, .int c1), (2, .ref (a 0)), (3, .int c2), (4, .int c3), (5, .int x4), (6, .int x5), (7, .int x6), (8, .int x7), (9, .int x8), (10, .int x9), (11, .int x10), (12, .int x11), (13, .int x12)] → W p l e rL_isSo s m args below meth c H locs 0 0 Q (F0 m 27 ls []) := by
  have hx := C.1
  have hb := C.2.1
  intro n
  induction n with
  | zero =>
    intro x4 x5 x6 x7 x8 x9 x10 x11 x12 hm
    cases hm
  | succ n ih =>
    intro x4 x5 x6 x7 x8 x9 x10 x11 x12 hm H locs ls X hl
    rw [whl] at hm
    obtain ⟨q, hq, hm2⟩ := bnd hm
    clear hm
    have hm := hq
    clear hq
    rw [bL_isSo_27] at hm
    refine lv_iload hx hb dL_isSo_27 (lv_at hl 13 rfl) ?_
    refine lv_iload_n hx hb dL_isSo_29 rfl (lv_at hl 3 rfl) ?_
    refine lv_icmp_ge (tgt := 475) hx hb dL_isSo_30 (by decide) (fun hc => ?_) (fun hc => ?_)
    · have hm := ifp hc hm
      cases sm hm
      cases sm hm2
      exact kk _ _ _ X (lv_sub hl [0, 1, 3, 4, 6, 7, 8, 9, 10, 11, 12] rfl)
    · have hm := ifn hc hm
      refine lv_aload_n hx hb dL_isSo_33 rfl (lv_at hl 2 rfl) ?_
      refine lv_iload_n hx hb dL_isSo_34 rfl (lv_at hl 3 rfl) ?_
      refine lv_iload hx hb dL_isSo_35 (lv_at hl 13 rfl) ?_
      refine lv_aload_n hx hb dL_isSo_37 rfl (lv_at hl 0 rfl) ?_
      refine lv_iconst (v := 1) hx hb dL_isSo_38 (by decide) ?_
      obtain ⟨r27, hcl, hm⟩ := bnd hm
      refine kVp _ List.perm_append_comm C X (kX5_setting l g D R 1 w13 w14 w15 w16 w17 w18 r27 hcl) (cw_L_isSo_X5_setting_82 C) 0 (ci := 5) rfl rfl (As := [.int 1]) rfl hl (rest := [.int x12, .int c2, .ref (a 0)]) rfl (Nat.le_of_ble_eq_true rfl) (st2 := [.int r27, .int x12, .int c2, .ref (a 0)]) rfl dL_isSo_39 ⟨Nat.le_of_ble_eq_true rfl, Nat.le_of_ble_eq_true rfl⟩ (w3 := wR g a na w19 ++ wB g D R w13 w14 w15 w16 w17 w18) (List.Perm.refl _) (fun H locs X => ?_)
      clear hcl
      refine lv_aload_n hx hb dL_isSo_42 rfl (lv_at hl 0 rfl) ?_
      refine lv_iconst (v := 2) hx hb dL_isSo_43 (by decide) ?_
      obtain ⟨r28, hcl, hm⟩ := bnd hm
      refine kVp _ List.perm_append_comm C X (kX5_setting l g D R 2 w13 w14 w15 w16 w17 w18 r28 hcl) (cw_L_isSo_X5_setting_82 C) 0 (ci := 5) rfl rfl (As := [.int 2]) rfl hl (rest := [.int r27, .int x12, .int c2, .ref (a 0)]) rfl (Nat.le_of_ble_eq_true rfl) (st2 := [.int r28, .int r27, .int x12, .int c2, .ref (a 0)]) rfl dL_isSo_44 ⟨Nat.le_of_ble_eq_true rfl, Nat.le_of_ble_eq_true rfl⟩ (w3 := wR g a na w19 ++ wB g D R w13 w14 w15 w16 w17 w18) (List.Perm.refl _) (fun H locs X => ?_)
      clear hcl
      obtain ⟨r29, hcl, hm⟩ := bnd hm
      refine kSp _ (List.Perm.refl _) C X (kL_fixed l g a c2 x12 r27 r28 na w19 r29 hcl) (cw_L_isSo_L_fixed_85 C) (As := [.ref (a 0), .int c2, .int x12, .int r27, .int r28]) rfl hl (rest := []) rfl (Nat.le_of_ble_eq_true rfl) (st2 := [.int r29]) rfl dL_isSo_47 ⟨Nat.le_of_ble_eq_true rfl, Nat.le_of_ble_eq_true rfl⟩ (w3 := wR g a na w19 ++ wB g D R w13 w14 w15 w16 w17 w18) List.perm_append_comm (fun H locs X => ?_)
      clear hcl
      refine lv_istore (lv' := [(14, .int r29), (0, .ref (D 0 0)), (1, .int c1), (2, .ref (a 0)), (3, .int c2), (4, .int c3), (5, .int x4), (6, .int x5), (7, .int x6), (8, .int x7), (9, .int x8), (10, .int x9), (11, .int x10), (12, .int x11), (13, .int x12)]) hx hb dL_isSo_50 hl (by decide) rfl (fun ls hl => ?_)
      refine lv_iload hx hb dL_isSo_52 (lv_at hl 5 rfl) ?_
      refine lv_iload hx hb dL_isSo_54 (lv_at hl 14 rfl) ?_
      refine lv_ishr hx hb dL_isSo_56 ?_
      refine lv_iconst (v := 1) hx hb dL_isSo_57 (by decide) ?_
      refine lv_iand hx hb dL_isSo_58 ?_
      refine lv_iconst (v := 1) hx hb dL_isSo_59 (by decide) ?_
      obtain ⟨v30, hE, hm⟩ := bnd hm
      have K : ∀ (H : Heap) (locs : List Loc) (ls : Array Slot), ST g A s H locs (wR g a na w19 ++ wB g D R w13 w14 w15 w16 w17 w18) → lv_has ls 18 [(0, .ref (D 0 0)), (1, .int c1), (2, .ref (a 0)), (3, .int c2), (4, .int c3), (5, .int x4), (6, .int x5), (7, .int x6), (8, .int x7), (9, .int x8), (10, .int x9), (11, .int x10), (12, .int x11), (13, .int x12), (14, .int r29)] → W p l e rL_isSo s m args below meth c H locs 0 0 Q (F0 m 68 ls [.int v30]) := by
        intro H locs ls X hl
        clear hE
        refine lv_istore (lv' := [(15, .int v30), (0, .ref (D 0 0)), (1, .int c1), (2, .ref (a 0)), (3, .int c2), (4, .int c3), (5, .int x4), (6, .int x5), (7, .int x6), (8, .int x7), (9, .int x8), (10, .int x9), (11, .int x10), (12, .int x11), (13, .int x12), (14, .int r29)]) hx hb dL_isSo_68 hl (by decide) rfl (fun ls hl => ?_)
        refine lv_iload hx hb dL_isSo_70 (lv_at hl 0 rfl) ?_
        obtain ⟨v34, hE, hm⟩ := bnd hm
        have K : ∀ (H : Heap) (locs : List Loc) (ls : Array Slot), ST g A s H locs (wR g a na w19 ++ wB g D R w13 w14 w15 w16 w17 w18) → lv_has ls 18 [(0, .ref (D 0 0)), (1, .int c1), (2, .ref (a 0)), (3, .int c2), (4, .int c3), (5, .int x4), (6, .int x5), (7, .int x6), (8, .int x7), (9, .int x8), (10, .int x9), (11, .int x10), (12, .int x11), (13, .int x12), (14, .int r29), (15, .int v30)] → W p l e rL_isSo s m args below meth c H locs 0 0 Q (F0 m 99 ls [.int v34]) := by
          intro H locs ls X hl
          clear hE
          refine lv_istore (lv' := [(16, .int v34), (0, .ref (D 0 0)), (1, .int c1), (2, .ref (a 0)), (3, .int c2), (4, .int c3), (5, .int x4), (6, .int x5), (7, .int x6), (8, .int x7), (9, .int x8), (10, .int x9), (11, .int x10), (12, .int x11), (13, .int x12), (14, .int r29), (15, .int v30)]) hx hb dL_isSo_99 hl (by decide) rfl (fun ls hl => ?_)
          refine lv_aload_n hx hb dL_isSo_101 rfl (lv_at hl 1 rfl) ?_
          refine lv_iload_n hx hb dL_isSo_102 rfl (lv_at hl 2 rfl) ?_
          refine lv_iload hx hb dL_isSo_103 (lv_at hl 14 rfl) ?_
          refine lv_iconst (v := 0) hx hb dL_isSo_105 (by decide) ?_
          obtain ⟨r38, hcl, hm⟩ := bnd hm
          refine kVp _ List.perm_append_comm C X (kX5_point l g D R c1 x12 0 w13 w14 w15 w16 w17 w18 r38 hcl) (cw_L_isSo_X5_point_93 C) 0 (ci := 5) rfl rfl (As := [.int c1, .int x12, .int 0]) rfl hl (rest := []) rfl (Nat.le_of_ble_eq_true rfl) (st2 := [.int r38]) rfl dL_isSo_106 ⟨Nat.le_of_ble_eq_true rfl, Nat.le_of_ble_eq_true rfl⟩ (w3 := wR g a na w19 ++ wB g D R w13 w14 w15 w16 w17 w18) (List.Perm.refl _) (fun H locs X => ?_)
          clear hcl
          refine lv_aload_n hx hb dL_isSo_109 rfl (lv_at hl 3 rfl) ?_
          refine lv_iconst (v := 3) hx hb dL_isSo_110 (by decide) ?_
          refine lv_iload hx hb dL_isSo_111 (lv_at hl 14 rfl) ?_
          refine lv_imul hx hb dL_isSo_113 ?_
          obtain ⟨hgi, hm⟩ := gd_t hm
          refine kiald C X 0 rfl hgi dL_isSo_114 ?_
          refine lv_icmp_ne (tgt := 203) hx hb dL_isSo_115 (by decide) (fun hc => ?_) (fun hc => ?_)
          · have hm := ifn hc hm
            cases hm
          · have hm := ifp hc hm
            refine lv_aload_n hx hb dL_isSo_118 rfl (lv_at hl 1 rfl) ?_
            refine lv_iload_n hx hb dL_isSo_119 rfl (lv_at hl 2 rfl) ?_
            refine lv_iload hx hb dL_isSo_120 (lv_at hl 14 rfl) ?_
            refine lv_iconst (v := 1) hx hb dL_isSo_122 (by decide) ?_
            obtain ⟨r39, hcl, hm⟩ := bnd hm
            refine kVp _ List.perm_append_comm C X (kX5_point l g D R c1 x12 1 w13 w14 w15 w16 w17 w18 r39 hcl) (cw_L_isSo_X5_point_93 C) 0 (ci := 5) rfl rfl (As := [.int c1, .int x12, .int 1]) rfl hl (rest := []) rfl (Nat.le_of_ble_eq_true rfl) (st2 := [.int r39]) rfl dL_isSo_123 ⟨Nat.le_of_ble_eq_true rfl, Nat.le_of_ble_eq_true rfl⟩ (w3 := wR g a na w19 ++ wB g D R w13 w14 w15 w16 w17 w18) (List.Perm.refl _) (fun H locs X => ?_)
            clear hcl
            refine lv_aload_n hx hb dL_isSo_126 rfl (lv_at hl 3 rfl) ?_
            refine lv_iconst (v := 3) hx hb dL_isSo_127 (by decide) ?_
            refine lv_iload hx hb dL_isSo_128 (lv_at hl 14 rfl) ?_
            refine lv_imul hx hb dL_isSo_130 ?_
            refine lv_iconst (v := 1) hx hb dL_isSo_131 (by decide) ?_
            refine lv_iadd hx hb dL_isSo_132 ?_
            obtain ⟨hgi, hm⟩ := gd_t hm
            refine kiald C X 0 rfl hgi dL_isSo_133 ?_
            refine lv_icmp_ne (tgt := 203) hx hb dL_isSo_134 (by decide) (fun hc => ?_) (fun hc => ?_)
            · have hm := ifn hc hm
              cases hm
            · have hm := ifp hc hm
              refine lv_aload_n hx hb dL_isSo_137 rfl (lv_at hl 1 rfl) ?_
              refine lv_iload_n hx hb dL_isSo_138 rfl (lv_at hl 2 rfl) ?_
              refine lv_iload hx hb dL_isSo_139 (lv_at hl 14 rfl) ?_
              refine lv_iconst (v := 2) hx hb dL_isSo_141 (by decide) ?_
              obtain ⟨r40, hcl, hm⟩ := bnd hm
              refine kVp _ List.perm_append_comm C X (kX5_point l g D R c1 x12 2 w13 w14 w15 w16 w17 w18 r40 hcl) (cw_L_isSo_X5_point_93 C) 0 (ci := 5) rfl rfl (As := [.int c1, .int x12, .int 2]) rfl hl (rest := []) rfl (Nat.le_of_ble_eq_true rfl) (st2 := [.int r40]) rfl dL_isSo_142 ⟨Nat.le_of_ble_eq_true rfl, Nat.le_of_ble_eq_true rfl⟩ (w3 := wR g a na w19 ++ wB g D R w13 w14 w15 w16 w17 w18) (List.Perm.refl _) (fun H locs X => ?_)
              clear hcl
              refine lv_aload_n hx hb dL_isSo_145 rfl (lv_at hl 3 rfl) ?_
              refine lv_iconst (v := 3) hx hb dL_isSo_146 (by decide) ?_
              refine lv_iload hx hb dL_isSo_147 (lv_at hl 14 rfl) ?_
              refine lv_imul hx hb dL_isSo_149 ?_
              refine lv_iconst (v := 2) hx hb dL_isSo_150 (by decide) ?_
              refine lv_iadd hx hb dL_isSo_151 ?_
              obtain ⟨hgi, hm⟩ := gd_t hm
              refine kiald C X 0 rfl hgi dL_isSo_152 ?_
              refine lv_icmp_ne (tgt := 203) hx hb dL_isSo_153 (by decide) (fun hc => ?_) (fun hc => ?_)
              · have hm := ifn hc hm
                cases hm
              · have hm := ifp hc hm
                refine lv_aload_n hx hb dL_isSo_156 rfl (lv_at hl 1 rfl) ?_
                refine lv_iload_n hx hb dL_isSo_157 rfl (lv_at hl 2 rfl) ?_
                refine lv_iload hx hb dL_isSo_158 (lv_at hl 14 rfl) ?_
                refine lv_iconst (v := 3) hx hb dL_isSo_160 (by decide) ?_
                obtain ⟨r41, hcl, hm⟩ := bnd hm
                refine kVp _ List.perm_append_comm C X (kX5_point l g D R c1 x12 3 w13 w14 w15 w16 w17 w18 r41 hcl) (cw_L_isSo_X5_point_93 C) 0 (ci := 5) rfl rfl (As := [.int c1, .int x12, .int 3]) rfl hl (rest := []) rfl (Nat.le_of_ble_eq_true rfl) (st2 := [.int r41]) rfl dL_isSo_161 ⟨Nat.le_of_ble_eq_true rfl, Nat.le_of_ble_eq_true rfl⟩ (w3 := wR g a na w19 ++ wB g D R w13 w14 w15 w16 w17 w18) (List.Perm.refl _) (fun H locs X => ?_)
                clear hcl
                refine lv_iload hx hb dL_isSo_164 (lv_at hl 16 rfl) ?_
                obtain ⟨v42, hE, hm⟩ := bnd hm
                have K : ∀ (H : Heap) (locs : List Loc) (ls : Array Slot), ST g A s H locs (wR g a na w19 ++ wB g D R w13 w14 w15 w16 w17 w18) → lv_has ls 18 [(0, .ref (D 0 0)), (1, .int c1), (2, .ref (a 0)), (3, .int c2), (4, .int c3), (5, .int x4), (6, .int x5), (7, .int x6), (8, .int x7), (9, .int x8), (10, .int x9), (11, .int x10), (12, .int x11), (13, .int x12), (14, .int r29), (15, .int v30), (16, .int v34)] → W p l e rL_isSo s m args below meth c H locs 0 0 Q (F0 m 174 ls [.int v42, .int r41]) := by
                  intro H locs ls X hl
                  clear hE
                  refine lv_icmp_ne (tgt := 203) hx hb dL_isSo_174 (by decide) (fun hc => ?_) (fun hc => ?_)
                  · have hm := ifn hc hm
                    cases hm
                  · have hm := ifp hc hm
                    refine lv_aload_n hx hb dL_isSo_177 rfl (lv_at hl 0 rfl) ?_
                    refine lv_iload_n hx hb dL_isSo_178 rfl (lv_at hl 1 rfl) ?_
                    refine lv_iload hx hb dL_isSo_179 (lv_at hl 13 rfl) ?_
                    refine lv_iconst (v := 4) hx hb dL_isSo_181 (by decide) ?_
                    obtain ⟨r43, hcl, hm⟩ := bnd hm
                    refine kVp _ List.perm_append_comm C X (kX5_point l g D R c1 x12 4 w13 w14 w15 w16 w17 w18 r43 hcl) (cw_L_isSo_X5_point_93 C) 0 (ci := 5) rfl rfl (As := [.int c1, .int x12, .int 4]) rfl hl (rest := []) rfl (Nat.le_of_ble_eq_true rfl) (st2 := [.int r43]) rfl dL_isSo_182 ⟨Nat.le_of_ble_eq_true rfl, Nat.le_of_ble_eq_true rfl⟩ (w3 := wR g a na w19 ++ wB g D R w13 w14 w15 w16 w17 w18) (List.Perm.refl _) (fun H locs X => ?_)
                    clear hcl
                    refine lv_iload hx hb dL_isSo_185 (lv_at hl 14 rfl) ?_
                    refine lv_icmp_ne (tgt := 203) hx hb dL_isSo_187 (by decide) (fun hc => ?_) (fun hc => ?_)
                    · have hm := ifn hc hm
                      cases hm
                    · have hm := ifp hc hm
                      refine lv_aload_n hx hb dL_isSo_190 rfl (lv_at hl 0 rfl) ?_
                      refine lv_iload_n hx hb dL_isSo_191 rfl (lv_at hl 1 rfl) ?_
                      refine lv_iload hx hb dL_isSo_192 (lv_at hl 13 rfl) ?_
                      refine lv_iconst (v := 5) hx hb dL_isSo_194 (by decide) ?_
                      obtain ⟨r44, hcl, hm⟩ := bnd hm
                      refine kVp _ List.perm_append_comm C X (kX5_point l g D R c1 x12 5 w13 w14 w15 w16 w17 w18 r44 hcl) (cw_L_isSo_X5_point_93 C) 0 (ci := 5) rfl rfl (As := [.int c1, .int x12, .int 5]) rfl hl (rest := []) rfl (Nat.le_of_ble_eq_true rfl) (st2 := [.int r44]) rfl dL_isSo_195 ⟨Nat.le_of_ble_eq_true rfl, Nat.le_of_ble_eq_true rfl⟩ (w3 := wR g a na w19 ++ wB g D R w13 w14 w15 w16 w17 w18) (List.Perm.refl _) (fun H locs X => ?_)
                      clear hcl
                      refine lv_iload hx hb dL_isSo_198 (lv_at hl 16 rfl) ?_
                      refine lv_icmp_eq (tgt := 205) hx hb dL_isSo_200 (by decide) (fun hc => ?_) (fun hc => ?_)
                      · have hm := ifp hc hm
                        refine lv_iload hx hb dL_isSo_205 (lv_at hl 5 rfl) ?_
                        refine lv_iload hx hb dL_isSo_207 (lv_at hl 14 rfl) ?_
                        obtain ⟨v45, hE, hm⟩ := bnd hm
                        have K : ∀ (H : Heap) (locs : List Loc) (ls : Array Slot), ST g A s H locs (wR g a na w19 ++ wB g D R w13 w14 w15 w16 w17 w18) → lv_has ls 18 [(0, .ref (D 0 0)), (1, .int c1), (2, .ref (a 0)), (3, .int c2), (4, .int c3), (6, .int x5), (7, .int x6), (8, .int x7), (9, .int x8), (10, .int x9), (11, .int x10), (12, .int x11), (13, .int x12), (14, .int r29), (15, .int v30), (16, .int v34)] → W p l e rL_isSo s m args below meth c H locs 0 0 Q (F0 m 220 ls [.int v45, .int x4]) := by
                          intro H locs ls X hl
                          clear hE
                          refine lv_ior hx hb dL_isSo_220 ?_
                          refine lv_istore (lv' := [(5, .int (x4 ||| v45)), (0, .ref (D 0 0)), (1, .int c1), (2, .ref (a 0)), (3, .int c2), (4, .int c3), (6, .int x5), (7, .int x6), (8, .int x7), (9, .int x8), (10, .int x9), (11, .int x10), (12, .int x11), (13, .int x12), (14, .int r29), (15, .int v30), (16, .int v34)]) hx hb dL_isSo_221 hl (by decide) rfl (fun ls hl => ?_)
                          refine lv_iload hx hb dL_isSo_223 (lv_at hl 6 rfl) ?_
                          refine lv_iload hx hb dL_isSo_225 (lv_at hl 14 rfl) ?_
                          refine lv_iconst (v := 1) hx hb dL_isSo_227 (by decide) ?_
                          refine lv_ishr hx hb dL_isSo_228 ?_
                          refine lv_iconst (v := 1) hx hb dL_isSo_229 (by decide) ?_
                          refine lv_iand hx hb dL_isSo_230 ?_
                          refine lv_iadd hx hb dL_isSo_231 ?_
                          refine lv_istore (lv' := [(6, .int (x5 + ((r29 >>> (1 &&& 31)) &&& 1))), (5, .int (x4 ||| v45)), (0, .ref (D 0 0)), (1, .int c1), (2, .ref (a 0)), (3, .int c2), (4, .int c3), (7, .int x6), (8, .int x7), (9, .int x8), (10, .int x9), (11, .int x10), (12, .int x11), (13, .int x12), (14, .int r29), (15, .int v30), (16, .int v34)]) hx hb dL_isSo_232 hl (by decide) rfl (fun ls hl => ?_)
                          refine lv_iload hx hb dL_isSo_234 (lv_at hl 7 rfl) ?_
                          refine lv_iload hx hb dL_isSo_236 (lv_at hl 14 rfl) ?_
                          refine lv_iconst (v := 2) hx hb dL_isSo_238 (by decide) ?_
                          refine lv_ishr hx hb dL_isSo_239 ?_
                          refine lv_iadd hx hb dL_isSo_240 ?_
                          refine lv_istore (lv' := [(7, .int (x6 + (r29 >>> (2 &&& 31)))), (6, .int (x5 + ((r29 >>> (1 &&& 31)) &&& 1))), (5, .int (x4 ||| v45)), (0, .ref (D 0 0)), (1, .int c1), (2, .ref (a 0)), (3, .int c2), (4, .int c3), (8, .int x7), (9, .int x8), (10, .int x9), (11, .int x10), (12, .int x11), (13, .int x12), (14, .int r29), (15, .int v30), (16, .int v34)]) hx hb dL_isSo_241 hl (by decide) rfl (fun ls hl => ?_)
                          refine lv_iload hx hb dL_isSo_243 (lv_at hl 16 rfl) ?_
                          refine lv_iload hx hb dL_isSo_245 (lv_at hl 8 rfl) ?_
                          obtain ⟨v46, hE, hm⟩ := bnd hm
                          have K : ∀ (H : Heap) (locs : List Loc) (ls : Array Slot), ST g A s H locs (wR g a na w19 ++ wB g D R w13 w14 w15 w16 w17 w18) → lv_has ls 18 [(0, .ref (D 0 0)), (1, .int c1), (2, .ref (a 0)), (3, .int c2), (4, .int c3), (5, .int (x4 ||| v45)), (6, .int (x5 + ((r29 >>> (1 &&& 31)) &&& 1))), (7, .int (x6 + (r29 >>> (2 &&& 31)))), (8, .int x7), (10, .int x9), (11, .int x10), (12, .int x11), (13, .int x12), (15, .int v30), (16, .int v34)] → W p l e rL_isSo s m args below meth c H locs 0 0 Q (F0 m 257 ls [.int v46]) := by
                            intro H locs ls X hl
                            clear hE
                            refine lv_istore (lv' := [(9, .int v46), (0, .ref (D 0 0)), (1, .int c1), (2, .ref (a 0)), (3, .int c2), (4, .int c3), (5, .int (x4 ||| v45)), (6, .int (x5 + ((r29 >>> (1 &&& 31)) &&& 1))), (7, .int (x6 + (r29 >>> (2 &&& 31)))), (8, .int x7), (10, .int x9), (11, .int x10), (12, .int x11), (13, .int x12), (15, .int v30), (16, .int v34)]) hx hb dL_isSo_257 hl (by decide) rfl (fun ls hl => ?_)
                            refine lv_iload hx hb dL_isSo_259 (lv_at hl 15 rfl) ?_
                            refine lv_iload hx hb dL_isSo_261 (lv_at hl 9 rfl) ?_
                            obtain ⟨v47, hE, hm⟩ := bnd hm
                            have K : ∀ (H : Heap) (locs : List Loc) (ls : Array Slot), ST g A s H locs (wR g a na w19 ++ wB g D R w13 w14 w15 w16 w17 w18) → lv_has ls 18 [(0, .ref (D 0 0)), (1, .int c1), (2, .ref (a 0)), (3, .int c2), (4, .int c3), (5, .int (x4 ||| v45)), (6, .int (x5 + ((r29 >>> (1 &&& 31)) &&& 1))), (7, .int (x6 + (r29 >>> (2 &&& 31)))), (9, .int v46), (10, .int x9), (11, .int x10), (12, .int x11), (13, .int x12), (15, .int v30)] → W p l e rL_isSo s m args below meth c H locs 0 0 Q (F0 m 273 ls [.int v47]) := by
                              intro H locs ls X hl
                              clear hE
                              refine lv_istore (lv' := [(8, .int v47), (0, .ref (D 0 0)), (1, .int c1), (2, .ref (a 0)), (3, .int c2), (4, .int c3), (5, .int (x4 ||| v45)), (6, .int (x5 + ((r29 >>> (1 &&& 31)) &&& 1))), (7, .int (x6 + (r29 >>> (2 &&& 31)))), (9, .int v46), (10, .int x9), (11, .int x10), (12, .int x11), (13, .int x12), (15, .int v30)]) hx hb dL_isSo_273 hl (by decide) rfl (fun ls hl => ?_)
                              refine lv_iload hx hb dL_isSo_275 (lv_at hl 10 rfl) ?_
                              refine lv_iload hx hb dL_isSo_277 (lv_at hl 14 rfl) ?_
                              obtain ⟨v52, hE, hm⟩ := bnd hm
                              have K : ∀ (H : Heap) (locs : List Loc) (ls : Array Slot), ST g A s H locs (wR g a na w19 ++ wB g D R w13 w14 w15 w16 w17 w18) → lv_has ls 18 [(0, .ref (D 0 0)), (1, .int c1), (2, .ref (a 0)), (3, .int c2), (4, .int c3), (5, .int (x4 ||| v45)), (6, .int (x5 + ((r29 >>> (1 &&& 31)) &&& 1))), (7, .int (x6 + (r29 >>> (2 &&& 31)))), (8, .int v47), (9, .int v46), (11, .int x10), (12, .int x11), (13, .int x12), (15, .int v30)] → W p l e rL_isSo s m args below meth c H locs 0 0 Q (F0 m 323 ls [.int v52, .int x9]) := by
                                intro H locs ls X hl
                                clear hE
                                refine lv_iadd hx hb dL_isSo_323 ?_
                                refine lv_istore (lv' := [(10, .int (x9 + v52)), (0, .ref (D 0 0)), (1, .int c1), (2, .ref (a 0)), (3, .int c2), (4, .int c3), (5, .int (x4 ||| v45)), (6, .int (x5 + ((r29 >>> (1 &&& 31)) &&& 1))), (7, .int (x6 + (r29 >>> (2 &&& 31)))), (8, .int v47), (9, .int v46), (11, .int x10), (12, .int x11), (13, .int x12), (15, .int v30)]) hx hb dL_isSo_324 hl (by decide) rfl (fun ls hl => ?_)
                                refine lv_iload hx hb dL_isSo_326 (lv_at hl 11 rfl) ?_
                                refine lv_iload hx hb dL_isSo_328 (lv_at hl 14 rfl) ?_
                                obtain ⟨v61, hE, hm⟩ := bnd hm
                                have K : ∀ (H : Heap) (locs : List Loc) (ls : Array Slot), ST g A s H locs (wR g a na w19 ++ wB g D R w13 w14 w15 w16 w17 w18) → lv_has ls 18 [(0, .ref (D 0 0)), (1, .int c1), (2, .ref (a 0)), (3, .int c2), (4, .int c3), (5, .int (x4 ||| v45)), (6, .int (x5 + ((r29 >>> (1 &&& 31)) &&& 1))), (7, .int (x6 + (r29 >>> (2 &&& 31)))), (8, .int v47), (9, .int v46), (10, .int (x9 + v52)), (12, .int x11), (13, .int x12), (15, .int v30)] → W p l e rL_isSo s m args below meth c H locs 0 0 Q (F0 m 379 ls [.int v61, .int x10]) := by
                                  intro H locs ls X hl
                                  clear hE
                                  refine lv_iadd hx hb dL_isSo_379 ?_
                                  refine lv_istore (lv' := [(11, .int (x10 + v61)), (0, .ref (D 0 0)), (1, .int c1), (2, .ref (a 0)), (3, .int c2), (4, .int c3), (5, .int (x4 ||| v45)), (6, .int (x5 + ((r29 >>> (1 &&& 31)) &&& 1))), (7, .int (x6 + (r29 >>> (2 &&& 31)))), (8, .int v47), (9, .int v46), (10, .int (x9 + v52)), (12, .int x11), (13, .int x12), (15, .int v30)]) hx hb dL_isSo_380 hl (by decide) rfl (fun ls hl => ?_)
                                  refine lv_iconst (v := 0) hx hb dL_isSo_382 (by decide) ?_
                                  refine lv_istore (lv' := [(17, .int 0), (11, .int (x10 + v61)), (0, .ref (D 0 0)), (1, .int c1), (2, .ref (a 0)), (3, .int c2), (4, .int c3), (5, .int (x4 ||| v45)), (6, .int (x5 + ((r29 >>> (1 &&& 31)) &&& 1))), (7, .int (x6 + (r29 >>> (2 &&& 31)))), (8, .int v47), (9, .int v46), (10, .int (x9 + v52)), (12, .int x11), (13, .int x12), (15, .int v30)]) hx hb dL_isSo_383 hl (by decide) rfl (fun ls hl => ?_)
                                  obtain ⟨y97, hL, hm⟩ := bnd hm
                                  obtain ⟨nn, hn⟩ := lp_run hL
                                  refine tL_isSo_385 D R a C c1 c2 c3 (x4 ||| v45) (x5 + ((r29 >>> (1 &&& 31)) &&& 1)) (x6 + (r29 >>> (2 &&& 31))) v47 v46 (x9 + v52) (x10 + v61) x12 v30 w13 w14 w15 w16 w17 w18 w19 na y97 (fun H locs ls X hl => ?_) nn _ _ hn _ _ _ X (lv_sub hl [2, 3, 4, 5, 6, 7, 8, 9, 10, 11, 12, 1, 13, 14, 15, 0] rfl)
                                  clear hL hn
                                  refine lv_iinc (v := x12 + 1) (lv' := [(13, .int (x12 + 1)), (0, .ref (D 0 0)), (1, .int c1), (2, .ref (a 0)), (3, .int c2), (4, .int c3), (5, .int (x4 ||| v45)), (6, .int (x5 + ((r29 >>> (1 &&& 31)) &&& 1))), (7, .int (x6 + (r29 >>> (2 &&& 31)))), (8, .int v47), (9, .int v46), (10, .int (x9 + v52)), (11, .int (x10 + v61)), (12, .int y97)]) hx hb dL_isSo_469 hl (k := 13) rfl rfl (by decide) rfl (fun ls hl => ?_)
                                  refine lv_goto (tgt := 27) hx hb dL_isSo_472 (by decide) ?_
                                  cases sm hm
                                  exact ih _ _ _ _ _ _ _ _ _ hm2 _ _ _ X (lv_sub hl [1, 2, 3, 4, 5, 6, 7, 8, 9, 10, 11, 12, 13, 0] rfl)
                                clear hm
                                have hm := hE
                                clear hE
                                refine lv_if_eq (tgt := 378) hx hb dL_isSo_330 (by decide) (fun hc => ?_) (fun hc => ?_)
                                · have hm := ifp hc hm
                                  refine lv_iconst (v := 0) hx hb dL_isSo_378 (by decide) ?_
                                  cases sm hm
                                  exact K _ _ _ X (lv_sub hl [1, 2, 3, 4, 5, 6, 7, 8, 9, 10, 0, 12, 13, 14] rfl)
                                · have hm := ifn hc hm
                                  refine lv_iload hx hb dL_isSo_333 (lv_at hl 13 rfl) ?_
                                  refine lv_if_le (tgt := 378) hx hb dL_isSo_335 (by decide) (fun hc => ?_) (fun hc => ?_)
                                  · have hm := ifp hc hm
                                    refine lv_iconst (v := 0) hx hb dL_isSo_378 (by decide) ?_
                                    cases sm hm
                                    exact K _ _ _ X (lv_sub hl [1, 2, 3, 4, 5, 6, 7, 8, 9, 10, 0, 12, 13, 14] rfl)
                                  · have hm := ifn hc hm
                                    refine lv_iload hx hb dL_isSo_338 (lv_at hl 13 rfl) ?_
                                    refine lv_iload_n hx hb dL_isSo_340 rfl (lv_at hl 4 rfl) ?_
                                    refine lv_iconst (v := 1) hx hb dL_isSo_341 (by decide) ?_
                                    refine lv_isub hx hb dL_isSo_342 ?_
                                    refine lv_icmp_ge (tgt := 378) hx hb dL_isSo_343 (by decide) (fun hc => ?_) (fun hc => ?_)
                                    · have hm := ifp hc hm
                                      refine lv_iconst (v := 0) hx hb dL_isSo_378 (by decide) ?_
                                      cases sm hm
                                      exact K _ _ _ X (lv_sub hl [1, 2, 3, 4, 5, 6, 7, 8, 9, 10, 0, 12, 13, 14] rfl)
                                    · have hm := ifn hc hm
                                      refine lv_aload_n hx hb dL_isSo_346 rfl (lv_at hl 3 rfl) ?_
                                      refine lv_iload hx hb dL_isSo_347 (lv_at hl 5 rfl) ?_
                                      refine lv_iload hx hb dL_isSo_349 (lv_at hl 13 rfl) ?_
                                      obtain ⟨r62, hcl, hm⟩ := bnd hm
                                      refine kS0c C X (kL_last l g c3 x12 r62 hcl) (cw_L_isSo_L_last_69 C) (As := [.int c3, .int x12]) rfl hl (rest := [.ref (a 0), .int x10]) rfl (Nat.le_of_ble_eq_true rfl) (st2 := [.int r62, .ref (a 0), .int x10]) rfl dL_isSo_351 ⟨Nat.le_of_ble_eq_true rfl, Nat.le_of_ble_eq_true rfl⟩ (fun H locs X => ?_)
                                      clear hcl
                                      refine lv_iload hx hb dL_isSo_354 (lv_at hl 13 rfl) ?_
                                      refine lv_iload hx hb dL_isSo_356 (lv_at hl 5 rfl) ?_
                                      refine lv_iload hx hb dL_isSo_358 (lv_at hl 13 rfl) ?_
                                      obtain ⟨r63, hcl, hm⟩ := bnd hm
                                      refine kS0c C X (kL_next l g c3 x12 r63 hcl) (cw_L_isSo_L_next_72 C) (As := [.int c3, .int x12]) rfl hl (rest := [.int x12, .int r62, .ref (a 0), .int x10]) rfl (Nat.le_of_ble_eq_true rfl) (st2 := [.int r63, .int x12, .int r62, .ref (a 0), .int x10]) rfl dL_isSo_360 ⟨Nat.le_of_ble_eq_true rfl, Nat.le_of_ble_eq_true rfl⟩ (fun H locs X => ?_)
                                      clear hcl
                                      refine lv_aload_n hx hb dL_isSo_363 rfl (lv_at hl 1 rfl) ?_
                                      refine lv_iconst (v := 3) hx hb dL_isSo_364 (by decide) ?_
                                      obtain ⟨r64, hcl, hm⟩ := bnd hm
                                      refine kVp _ List.perm_append_comm C X (kX5_setting l g D R 3 w13 w14 w15 w16 w17 w18 r64 hcl) (cw_L_isSo_X5_setting_82 C) 0 (ci := 5) rfl rfl (As := [.int 3]) rfl hl (rest := [.int r63, .int x12, .int r62, .ref (a 0), .int x10]) rfl (Nat.le_of_ble_eq_true rfl) (st2 := [.int r64, .int r63, .int x12, .int r62, .ref (a 0), .int x10]) rfl dL_isSo_365 ⟨Nat.le_of_ble_eq_true rfl, Nat.le_of_ble_eq_true rfl⟩ (w3 := wR g a na w19 ++ wB g D R w13 w14 w15 w16 w17 w18) (List.Perm.refl _) (fun H locs X => ?_)
                                      clear hcl
                                      obtain ⟨r65, hcl, hm⟩ := bnd hm
                                      refine kSp _ (List.Perm.refl _) C X (kL_isSharp l g a r62 x12 r63 r64 na w19 r65 hcl) (cw_L_isSo_L_isSharp_65 C) (As := [.ref (a 0), .int r62, .int x12, .int r63, .int r64]) rfl hl (rest := [.int x10]) rfl (Nat.le_of_ble_eq_true rfl) (st2 := [.int r65, .int x10]) rfl dL_isSo_368 ⟨Nat.le_of_ble_eq_true rfl, Nat.le_of_ble_eq_true rfl⟩ (w3 := wR g a na w19 ++ wB g D R w13 w14 w15 w16 w17 w18) List.perm_append_comm (fun H locs X => ?_)
                                      clear hcl
                                      refine lv_if_eq (tgt := 378) hx hb dL_isSo_371 (by decide) (fun hc => ?_) (fun hc => ?_)
                                      · have hm := ifp hc hm
                                        refine lv_iconst (v := 0) hx hb dL_isSo_378 (by decide) ?_
                                        cases sm hm
                                        exact K _ _ _ X (lv_sub hl [1, 2, 3, 4, 5, 6, 7, 8, 9, 10, 0, 12, 13, 14] rfl)
                                      · have hm := ifn hc hm
                                        refine lv_iconst (v := 1) hx hb dL_isSo_374 (by decide) ?_
                                        refine lv_goto (tgt := 379) hx hb dL_isSo_375 (by decide) ?_
                                        cases sm hm
                                        exact K _ _ _ X (lv_sub hl [1, 2, 3, 4, 5, 6, 7, 8, 9, 10, 0, 12, 13, 14] rfl)
                              clear hm
                              have hm := hE
                              clear hE
                              refine lv_if_eq (tgt := 322) hx hb dL_isSo_279 (by decide) (fun hc => ?_) (fun hc => ?_)
                              · have hm := ifp hc hm
                                refine lv_iconst (v := 0) hx hb dL_isSo_322 (by decide) ?_
                                cases sm hm
                                exact K _ _ _ X (lv_sub hl [1, 2, 3, 4, 5, 6, 7, 8, 0, 9, 11, 12, 13, 14] rfl)
                              · have hm := ifn hc hm
                                refine lv_iload hx hb dL_isSo_282 (lv_at hl 13 rfl) ?_
                                refine lv_iload_n hx hb dL_isSo_284 rfl (lv_at hl 4 rfl) ?_
                                refine lv_iconst (v := 1) hx hb dL_isSo_285 (by decide) ?_
                                refine lv_isub hx hb dL_isSo_286 ?_
                                refine lv_icmp_ge (tgt := 322) hx hb dL_isSo_287 (by decide) (fun hc => ?_) (fun hc => ?_)
                                · have hm := ifp hc hm
                                  refine lv_iconst (v := 0) hx hb dL_isSo_322 (by decide) ?_
                                  cases sm hm
                                  exact K _ _ _ X (lv_sub hl [1, 2, 3, 4, 5, 6, 7, 8, 0, 9, 11, 12, 13, 14] rfl)
                                · have hm := ifn hc hm
                                  refine lv_ldc2 (v := 10000) hx hb C.2.2.2.2.1 (C.2.2.2.2.2.1 (.constantLong RL 53 10000) (by decide +kernel)) dL_isSo_290 ?_
                                  refine lv_aload_n hx hb dL_isSo_293 rfl (lv_at hl 3 rfl) ?_
                                  refine lv_iload hx hb dL_isSo_294 (lv_at hl 13 rfl) ?_
                                  refine lv_iload hx hb dL_isSo_296 (lv_at hl 5 rfl) ?_
                                  refine lv_iload hx hb dL_isSo_298 (lv_at hl 13 rfl) ?_
                                  obtain ⟨r53, hcl, hm⟩ := bnd hm
                                  refine kS0c C X (kL_next l g c3 x12 r53 hcl) (cw_L_isSo_L_next_72 C) (As := [.int c3, .int x12]) rfl hl (rest := [.int x12, .ref (a 0), .long 10000, .int x9]) rfl (Nat.le_of_ble_eq_true rfl) (st2 := [.int r53, .int x12, .ref (a 0), .long 10000, .int x9]) rfl dL_isSo_300 ⟨Nat.le_of_ble_eq_true rfl, Nat.le_of_ble_eq_true rfl⟩ (fun H locs X => ?_)
                                  clear hcl
                                  refine lv_iload hx hb dL_isSo_303 (lv_at hl 13 rfl) ?_
                                  refine lv_iload hx hb dL_isSo_305 (lv_at hl 5 rfl) ?_
                                  refine lv_iload hx hb dL_isSo_307 (lv_at hl 13 rfl) ?_
                                  obtain ⟨r54, hcl, hm⟩ := bnd hm
                                  refine kS0c C X (kL_next l g c3 x12 r54 hcl) (cw_L_isSo_L_next_72 C) (As := [.int c3, .int x12]) rfl hl (rest := [.int x12, .int r53, .int x12, .ref (a 0), .long 10000, .int x9]) rfl (Nat.le_of_ble_eq_true rfl) (st2 := [.int r54, .int x12, .int r53, .int x12, .ref (a 0), .long 10000, .int x9]) rfl dL_isSo_309 ⟨Nat.le_of_ble_eq_true rfl, Nat.le_of_ble_eq_true rfl⟩ (fun H locs X => ?_)
                                  clear hcl
                                  obtain ⟨r55, hcl, hm⟩ := bnd hm
                                  refine kSp _ (List.Perm.refl _) C X (kL_product l g a x12 r53 x12 r54 na w19 r55 hcl) (cw_L_isSo_L_product_42 C) (As := [.ref (a 0), .int x12, .int r53, .int x12, .int r54]) rfl hl (rest := [.long 10000, .int x9]) rfl (Nat.le_of_ble_eq_true rfl) (st2 := [.long r55, .long 10000, .int x9]) rfl dL_isSo_312 ⟨Nat.le_of_ble_eq_true rfl, Nat.le_of_ble_eq_true rfl⟩ (w3 := wR g a na w19 ++ wB g D R w13 w14 w15 w16 w17 w18) List.perm_append_comm (fun H locs X => ?_)
                                  clear hcl
                                  refine lv_lmul hx hb dL_isSo_315 ?_
                                  obtain ⟨r56, hcl, hm⟩ := bnd hm
                                  refine kS0c C X (kL_root l g (10000 * r55) r56 hcl) (cw_L_isSo_L_root_61 C) (As := [.long (10000 * r55)]) rfl hl (rest := [.int x9]) rfl (Nat.le_of_ble_eq_true rfl) (st2 := [.int r56, .int x9]) rfl dL_isSo_316 ⟨Nat.le_of_ble_eq_true rfl, Nat.le_of_ble_eq_true rfl⟩ (fun H locs X => ?_)
                                  clear hcl
                                  refine lv_goto (tgt := 323) hx hb dL_isSo_319 (by decide) ?_
                                  cases sm hm
                                  exact K _ _ _ X (lv_sub hl [1, 2, 3, 4, 5, 6, 7, 8, 0, 9, 11, 12, 13, 14] rfl)
                            clear hm
                            have hm := hE
                            clear hE
                            refine lv_icmp_le (tgt := 271) hx hb dL_isSo_263 (by decide) (fun hc => ?_) (fun hc => ?_)
                            · have hm := ifp hc hm
                              refine lv_iload hx hb dL_isSo_271 (lv_at hl 9 rfl) ?_
                              cases sm hm
                              exact K _ _ _ X (lv_sub hl [1, 2, 3, 4, 5, 6, 7, 8, 0, 10, 11, 12, 13, 14] rfl)
                            · have hm := ifn hc hm
                              refine lv_iload hx hb dL_isSo_266 (lv_at hl 15 rfl) ?_
                              refine lv_goto (tgt := 273) hx hb dL_isSo_268 (by decide) ?_
                              cases sm hm
                              exact K _ _ _ X (lv_sub hl [1, 2, 3, 4, 5, 6, 7, 8, 0, 10, 11, 12, 13, 14] rfl)
                          clear hm
                          have hm := hE
                          clear hE
                          refine lv_icmp_le (tgt := 255) hx hb dL_isSo_247 (by decide) (fun hc => ?_) (fun hc => ?_)
                          · have hm := ifp hc hm
                            refine lv_iload hx hb dL_isSo_255 (lv_at hl 9 rfl) ?_
                            cases sm hm
                            exact K _ _ _ X (lv_sub hl [3, 4, 5, 6, 7, 2, 1, 0, 8, 10, 11, 12, 13, 15, 16] rfl)
                          · have hm := ifn hc hm
                            refine lv_iload hx hb dL_isSo_250 (lv_at hl 13 rfl) ?_
                            refine lv_goto (tgt := 257) hx hb dL_isSo_252 (by decide) ?_
                            cases sm hm
                            exact K _ _ _ X (lv_sub hl [3, 4, 5, 6, 7, 2, 1, 0, 8, 10, 11, 12, 13, 15, 16] rfl)
                        clear hm
                        have hm := hE
                        clear hE
                        refine lv_if_le (tgt := 219) hx hb dL_isSo_209 (by decide) (fun hc => ?_) (fun hc => ?_)
                        · have hm := ifp hc hm
                          refine lv_iconst (v := 0) hx hb dL_isSo_219 (by decide) ?_
                          cases sm hm
                          exact K _ _ _ X (lv_sub hl [0, 1, 2, 3, 4, 6, 7, 8, 9, 10, 11, 12, 13, 14, 15, 16] rfl)
                        · have hm := ifn hc hm
                          refine lv_iconst (v := 1) hx hb dL_isSo_212 (by decide) ?_
                          refine lv_iload hx hb dL_isSo_213 (lv_at hl 13 rfl) ?_
                          refine lv_ishl hx hb dL_isSo_215 ?_
                          refine lv_goto (tgt := 220) hx hb dL_isSo_216 (by decide) ?_
                          cases sm hm
                          exact K _ _ _ X (lv_sub hl [0, 1, 2, 3, 4, 6, 7, 8, 9, 10, 11, 12, 13, 14, 15, 16] rfl)
                      · have hm := ifn hc hm
                        cases hm
                clear hm
                have hm := hE
                clear hE
                refine lv_if_eq (tgt := 173) hx hb dL_isSo_166 (by decide) (fun hc => ?_) (fun hc => ?_)
                · have hm := ifp hc hm
                  refine lv_iconst (v := 0) hx hb dL_isSo_173 (by decide) ?_
                  cases sm hm
                  exact K _ _ _ X (lv_sub hl [1, 2, 3, 4, 5, 6, 7, 8, 9, 10, 11, 12, 13, 14, 15, 16, 0] rfl)
                · have hm := ifn hc hm
                  refine lv_iconst (v := 1) hx hb dL_isSo_169 (by decide) ?_
                  refine lv_goto (tgt := 174) hx hb dL_isSo_170 (by decide) ?_
                  cases sm hm
                  exact K _ _ _ X (lv_sub hl [1, 2, 3, 4, 5, 6, 7, 8, 9, 10, 11, 12, 13, 14, 15, 16, 0] rfl)
        clear hm
        have hm := hE
        clear hE
        refine lv_if_eq (tgt := 79) hx hb dL_isSo_72 (by decide) (fun hc => ?_) (fun hc => ?_)
        · have hm := ifp hc hm
          refine lv_aload_n hx hb dL_isSo_79 rfl (lv_at hl 3 rfl) ?_
          refine lv_iload hx hb dL_isSo_80 (lv_at hl 14 rfl) ?_
          refine lv_iload hx hb dL_isSo_82 (lv_at hl 5 rfl) ?_
          refine lv_iload hx hb dL_isSo_84 (lv_at hl 14 rfl) ?_
          obtain ⟨r35, hcl, hm⟩ := bnd hm
          refine kS0c C X (kL_last l g c3 x12 r35 hcl) (cw_L_isSo_L_last_69 C) (As := [.int c3, .int x12]) rfl hl (rest := [.int x12, .ref (a 0)]) rfl (Nat.le_of_ble_eq_true rfl) (st2 := [.int r35, .int x12, .ref (a 0)]) rfl dL_isSo_86 ⟨Nat.le_of_ble_eq_true rfl, Nat.le_of_ble_eq_true rfl⟩ (fun H locs X => ?_)
          clear hcl
          refine lv_iload hx hb dL_isSo_89 (lv_at hl 5 rfl) ?_
          refine lv_iload hx hb dL_isSo_91 (lv_at hl 14 rfl) ?_
          obtain ⟨r36, hcl, hm⟩ := bnd hm
          refine kS0c C X (kL_next l g c3 x12 r36 hcl) (cw_L_isSo_L_next_72 C) (As := [.int c3, .int x12]) rfl hl (rest := [.int r35, .int x12, .ref (a 0)]) rfl (Nat.le_of_ble_eq_true rfl) (st2 := [.int r36, .int r35, .int x12, .ref (a 0)]) rfl dL_isSo_93 ⟨Nat.le_of_ble_eq_true rfl, Nat.le_of_ble_eq_true rfl⟩ (fun H locs X => ?_)
          clear hcl
          obtain ⟨r37, hcl, hm⟩ := bnd hm
          refine kSp _ (List.Perm.refl _) C X (kL_hundredths l g a x12 r35 r36 na w19 r37 hcl) (cw_L_isSo_L_hundredths_89 C) (As := [.ref (a 0), .int x12, .int r35, .int r36]) rfl hl (rest := []) rfl (Nat.le_of_ble_eq_true rfl) (st2 := [.int r37]) rfl dL_isSo_96 ⟨Nat.le_of_ble_eq_true rfl, Nat.le_of_ble_eq_true rfl⟩ (w3 := wR g a na w19 ++ wB g D R w13 w14 w15 w16 w17 w18) List.perm_append_comm (fun H locs X => ?_)
          clear hcl
          cases sm hm
          exact K _ _ _ X (lv_sub hl [1, 2, 3, 4, 5, 6, 7, 8, 9, 10, 11, 12, 13, 14, 15, 0] rfl)
        · have hm := ifn hc hm
          refine lv_iconst (v := 0) hx hb dL_isSo_75 (by decide) ?_
          refine lv_goto (tgt := 99) hx hb dL_isSo_76 (by decide) ?_
          cases sm hm
          exact K _ _ _ X (lv_sub hl [1, 2, 3, 4, 5, 6, 7, 8, 9, 10, 11, 12, 13, 14, 15, 0] rfl)
      clear hm
      have hm := hE
      clear hE
      refine lv_icmp_ne (tgt := 67) hx hb dL_isSo_60 (by decide) (fun hc => ?_) (fun hc => ?_)
      · have hm := ifn hc hm
        refine lv_iconst (v := 0) hx hb dL_isSo_67 (by decide) ?_
        cases sm hm
        exact K _ _ _ X (lv_sub hl [1, 2, 3, 4, 5, 6, 7, 8, 9, 10, 11, 12, 13, 14, 0] rfl)
      · have hm := ifp hc hm
        refine lv_iconst (v := 1) hx hb dL_isSo_63 (by decide) ?_
        refine lv_goto (tgt := 68) hx hb dL_isSo_64 (by decide) ?_
        cases sm hm
        exact K _ _ _ X (lv_sub hl [1, 2, 3, 4, 5, 6, 7, 8, 9, 10, 11, 12, 13, 14, 0] rfl)
noncomputable def fL_isSo (p1 : Int32) (p2 : Int32) (p3 : Int32) (na : Nat) (u : ShS) (f : (Nat → Int32)) : Option (Int32) := (lL_isSo_27 p1 p2 p3 u f na 0 0 0 0 0 0 0 0 0).bind fun (y98, y99, y100, y101, y102, y103, y104) => (fX5_strokeOf p1 0 u).bind fun r105 => if r105 = p2 then ((fX5_strokeOf p1 1 u).bind fun r106 => (fL_ones p3).bind fun r107 => if r106 = r107 then ((fX5_strokeOf p1 2 u).bind fun r108 => if r108 = y98 then ((fX5_strokeOf p1 3 u).bind fun r109 => if r109 = y99 then ((fX5_strokeOf p1 4 u).bind fun r110 => if r110 = y102 then ((fX5_strokeOf p1 5 u).bind fun r111 => if r111 = y100 then ((fX5_strokeOf p1 6 u).bind fun r112 => if r112 = y101 then ((fX5_strokeOf p1 9 u).bind fun r113 => if r113 = y103 then ((fX5_strokeOf p1 10 u).bind fun r114 => if r114 = p3 then ((fX5_crossings p1 u).bind fun r115 => if r115 = y104 then (some 1) else none) else none) else none) else none) else none) else none) else none) else none) else none) else none
set_option maxRecDepth 100000 in
set_option maxHeartbeats 4000000 in
theorem kL_isSo (l : Launch) (g : kG) (D : Nat → Nat → Nat) (R : kAd) (a : Nat → Nat) (p1 : Int32) (p2 : Int32) (p3 : Int32) (na : Nat) (u : ShS) (ts : TS) (bs : SS) (ps : PS) (hs : HS) (ns : NS) (f : (Nat → Int32)) (o1 : Int32) (hm : fL_isSo p1 p2 p3 na u f = some o1) : KM l yL_isSo wsL_isSo rL_isSo g [.ref (D 0 0), .int p1, .ref (a 0), .int p2, .int p3] (wR g a na f ++ wB g D R u ts bs ps hs ns) (some (.int o1)) (wR g a na f ++ wB g D R u ts bs ps hs ns) 0 0 := by
  refine KM.of (nL := 18) (by decide) rfl (Nat.le_of_ble_eq_true rfl) ?_
  intro p e s m args below meth c A ls C X hl
  have C : CT g p s m args meth c RL cL_isSo 18 (some .boolean) wsL_isSo A := C
  have hx := C.1
  have hb := C.2.1
  have hl : lv_has ls 18 [(0, .ref (D 0 0)), (1, .int p1), (2, .ref (a 0)), (3, .int p2), (4, .int p3)] := hl
  rw [fL_isSo] at hm
  refine lv_iconst (v := 0) hx hb dL_isSo_0 (by decide) ?_
  refine lv_istore (lv' := [(5, .int 0), (0, .ref (D 0 0)), (1, .int p1), (2, .ref (a 0)), (3, .int p2), (4, .int p3)]) hx hb dL_isSo_1 hl (by decide) rfl (fun ls hl => ?_)
  refine lv_iconst (v := 0) hx hb dL_isSo_3 (by decide) ?_
  refine lv_istore (lv' := [(6, .int 0), (5, .int 0), (0, .ref (D 0 0)), (1, .int p1), (2, .ref (a 0)), (3, .int p2), (4, .int p3)]) hx hb dL_isSo_4 hl (by decide) rfl (fun ls hl => ?_)
  refine lv_iconst (v := 0) hx hb dL_isSo_6 (by decide) ?_
  refine lv_istore (lv' := [(7, .int 0), (6, .int 0), (5, .int 0), (0, .ref (D 0 0)), (1, .int p1), (2, .ref (a 0)), (3, .int p2), (4, .int p3)]) hx hb dL_isSo_7 hl (by decide) rfl (fun ls hl => ?_)
  refine lv_iconst (v := 0) hx hb dL_isSo_9 (by decide) ?_
  refine lv_istore (lv' := [(8, .int 0), (7, .int 0), (6, .int 0), (5, .int 0), (0, .ref (D 0 0)), (1, .int p1), (2, .ref (a 0)), (3, .int p2), (4, .int p3)]) hx hb dL_isSo_10 hl (by decide) rfl (fun ls hl => ?_)
  refine lv_iconst (v := 0) hx hb dL_isSo_12 (by decide) ?_
  refine lv_istore (lv' := [(9, .int 0), (8, .int 0), (7, .int 0), (6, .int 0), (5, .int 0), (0, .ref (D 0 0)), (1, .int p1), (2, .ref (a 0)), (3, .int p2), (4, .int p3)]) hx hb dL_isSo_13 hl (by decide) rfl (fun ls hl => ?_)
  refine lv_iconst (v := 0) hx hb dL_isSo_15 (by decide) ?_
  refine lv_istore (lv' := [(10, .int 0), (9, .int 0), (8, .int 0), (7, .int 0), (6, .int 0), (5, .int 0), (0, .ref (D 0 0)), (1, .int p1), (2, .ref (a 0)), (3, .int p2), (4, .int p3)]) hx hb dL_isSo_16 hl (by decide) rfl (fun ls hl => ?_)
  refine lv_iconst (v := 0) hx hb dL_isSo_18 (by decide) ?_
  refine lv_istore (lv' := [(11, .int 0), (10, .int 0), (9, .int 0), (8, .int 0), (7, .int 0), (6, .int 0), (5, .int 0), (0, .ref (D 0 0)), (1, .int p1), (2, .ref (a 0)), (3, .int p2), (4, .int p3)]) hx hb dL_isSo_19 hl (by decide) rfl (fun ls hl => ?_)
  refine lv_iconst (v := 0) hx hb dL_isSo_21 (by decide) ?_
  refine lv_istore (lv' := [(12, .int 0), (11, .int 0), (10, .int 0), (9, .int 0), (8, .int 0), (7, .int 0), (6, .int 0), (5, .int 0), (0, .ref (D 0 0)), (1, .int p1), (2, .ref (a 0)), (3, .int p2), (4, .int p3)]) hx hb dL_isSo_22 hl (by decide) rfl (fun ls hl => ?_)
  refine lv_iconst (v := 0) hx hb dL_isSo_24 (by decide) ?_
  refine lv_istore (lv' := [(13, .int 0), (12, .int 0), (11, .int 0), (10, .int 0), (9, .int 0), (8, .int 0), (7, .int 0), (6, .int 0), (5, .int 0), (0, .ref (D 0 0)), (1, .int p1), (2, .ref (a 0)), (3, .int p2), (4, .int p3)]) hx hb dL_isSo_25 hl (by decide) rfl (fun ls hl => ?_)
  obtain ⟨⟨y98, y99, y100, y101, y102, y103, y104⟩, hL, hm⟩ := bnd hm
  obtain ⟨nn, hn⟩ := lp_run hL
  refine tL_isSo_27 D R a C p1 p2 p3 u ts bs ps hs ns f na y98 y99 y100 y101 y102 y103 y104 (fun H locs ls X hl => ?_) nn _ _ _ _ _ _ _ _ _ hn _ _ _ X (lv_sub hl [9, 10, 11, 12, 13, 8, 7, 6, 5, 4, 3, 2, 1, 0] rfl)
  clear hL hn
  refine lv_aload_n hx hb dL_isSo_475 rfl (lv_at hl 0 rfl) ?_
  refine lv_iload_n hx hb dL_isSo_476 rfl (lv_at hl 1 rfl) ?_
  refine lv_iconst (v := 0) hx hb dL_isSo_477 (by decide) ?_
  obtain ⟨r105, hcl, hm⟩ := bnd hm
  refine kVp _ List.perm_append_comm C X (kX5_strokeOf l g D R p1 0 u ts bs ps hs ns r105 hcl) (cw_L_isSo_X5_strokeOf_100 C) 0 (ci := 5) rfl rfl (As := [.int p1, .int 0]) rfl hl (rest := []) rfl (Nat.le_of_ble_eq_true rfl) (st2 := [.int r105]) rfl dL_isSo_478 ⟨Nat.le_of_ble_eq_true rfl, Nat.le_of_ble_eq_true rfl⟩ (w3 := wR g a na f ++ wB g D R u ts bs ps hs ns) (List.Perm.refl _) (fun H locs X => ?_)
  clear hcl
  refine lv_iload_n hx hb dL_isSo_481 rfl (lv_at hl 2 rfl) ?_
  refine lv_icmp_ne (tgt := 593) hx hb dL_isSo_482 (by decide) (fun hc => ?_) (fun hc => ?_)
  · have hm := ifn hc hm
    cases hm
  · have hm := ifp hc hm
    refine lv_aload_n hx hb dL_isSo_485 rfl (lv_at hl 0 rfl) ?_
    refine lv_iload_n hx hb dL_isSo_486 rfl (lv_at hl 1 rfl) ?_
    refine lv_iconst (v := 1) hx hb dL_isSo_487 (by decide) ?_
    obtain ⟨r106, hcl, hm⟩ := bnd hm
    refine kVp _ List.perm_append_comm C X (kX5_strokeOf l g D R p1 1 u ts bs ps hs ns r106 hcl) (cw_L_isSo_X5_strokeOf_100 C) 0 (ci := 5) rfl rfl (As := [.int p1, .int 1]) rfl hl (rest := []) rfl (Nat.le_of_ble_eq_true rfl) (st2 := [.int r106]) rfl dL_isSo_488 ⟨Nat.le_of_ble_eq_true rfl, Nat.le_of_ble_eq_true rfl⟩ (w3 := wR g a na f ++ wB g D R u ts bs ps hs ns) (List.Perm.refl _) (fun H locs X => ?_)
    clear hcl
    refine lv_iload hx hb dL_isSo_491 (lv_at hl 3 rfl) ?_
    obtain ⟨r107, hcl, hm⟩ := bnd hm
    refine kS0c C X (kL_ones l g p3 r107 hcl) (cw_L_isSo_L_ones_75 C) (As := [.int p3]) rfl hl (rest := [.int r106]) rfl (Nat.le_of_ble_eq_true rfl) (st2 := [.int r107, .int r106]) rfl dL_isSo_493 ⟨Nat.le_of_ble_eq_true rfl, Nat.le_of_ble_eq_true rfl⟩ (fun H locs X => ?_)
    clear hcl
    refine lv_icmp_ne (tgt := 593) hx hb dL_isSo_496 (by decide) (fun hc => ?_) (fun hc => ?_)
    · have hm := ifn hc hm
      cases hm
    · have hm := ifp hc hm
      refine lv_aload_n hx hb dL_isSo_499 rfl (lv_at hl 0 rfl) ?_
      refine lv_iload_n hx hb dL_isSo_500 rfl (lv_at hl 1 rfl) ?_
      refine lv_iconst (v := 2) hx hb dL_isSo_501 (by decide) ?_
      obtain ⟨r108, hcl, hm⟩ := bnd hm
      refine kVp _ List.perm_append_comm C X (kX5_strokeOf l g D R p1 2 u ts bs ps hs ns r108 hcl) (cw_L_isSo_X5_strokeOf_100 C) 0 (ci := 5) rfl rfl (As := [.int p1, .int 2]) rfl hl (rest := []) rfl (Nat.le_of_ble_eq_true rfl) (st2 := [.int r108]) rfl dL_isSo_502 ⟨Nat.le_of_ble_eq_true rfl, Nat.le_of_ble_eq_true rfl⟩ (w3 := wR g a na f ++ wB g D R u ts bs ps hs ns) (List.Perm.refl _) (fun H locs X => ?_)
      clear hcl
      refine lv_iload hx hb dL_isSo_505 (lv_at hl 4 rfl) ?_
      refine lv_icmp_ne (tgt := 593) hx hb dL_isSo_507 (by decide) (fun hc => ?_) (fun hc => ?_)
      · have hm := ifn hc hm
        cases hm
      · have hm := ifp hc hm
        refine lv_aload_n hx hb dL_isSo_510 rfl (lv_at hl 0 rfl) ?_
        refine lv_iload_n hx hb dL_isSo_511 rfl (lv_at hl 1 rfl) ?_
        refine lv_iconst (v := 3) hx hb dL_isSo_512 (by decide) ?_
        obtain ⟨r109, hcl, hm⟩ := bnd hm
        refine kVp _ List.perm_append_comm C X (kX5_strokeOf l g D R p1 3 u ts bs ps hs ns r109 hcl) (cw_L_isSo_X5_strokeOf_100 C) 0 (ci := 5) rfl rfl (As := [.int p1, .int 3]) rfl hl (rest := []) rfl (Nat.le_of_ble_eq_true rfl) (st2 := [.int r109]) rfl dL_isSo_513 ⟨Nat.le_of_ble_eq_true rfl, Nat.le_of_ble_eq_true rfl⟩ (w3 := wR g a na f ++ wB g D R u ts bs ps hs ns) (List.Perm.refl _) (fun H locs X => ?_)
        clear hcl
        refine lv_iload hx hb dL_isSo_516 (lv_at hl 5 rfl) ?_
        refine lv_icmp_ne (tgt := 593) hx hb dL_isSo_518 (by decide) (fun hc => ?_) (fun hc => ?_)
        · have hm := ifn hc hm
          cases hm
        · have hm := ifp hc hm
          refine lv_aload_n hx hb dL_isSo_521 rfl (lv_at hl 0 rfl) ?_
          refine lv_iload_n hx hb dL_isSo_522 rfl (lv_at hl 1 rfl) ?_
          refine lv_iconst (v := 4) hx hb dL_isSo_523 (by decide) ?_
          obtain ⟨r110, hcl, hm⟩ := bnd hm
          refine kVp _ List.perm_append_comm C X (kX5_strokeOf l g D R p1 4 u ts bs ps hs ns r110 hcl) (cw_L_isSo_X5_strokeOf_100 C) 0 (ci := 5) rfl rfl (As := [.int p1, .int 4]) rfl hl (rest := []) rfl (Nat.le_of_ble_eq_true rfl) (st2 := [.int r110]) rfl dL_isSo_524 ⟨Nat.le_of_ble_eq_true rfl, Nat.le_of_ble_eq_true rfl⟩ (w3 := wR g a na f ++ wB g D R u ts bs ps hs ns) (List.Perm.refl _) (fun H locs X => ?_)
          clear hcl
          refine lv_iload hx hb dL_isSo_527 (lv_at hl 8 rfl) ?_
          refine lv_icmp_ne (tgt := 593) hx hb dL_isSo_529 (by decide) (fun hc => ?_) (fun hc => ?_)
          · have hm := ifn hc hm
            cases hm
          · have hm := ifp hc hm
            refine lv_aload_n hx hb dL_isSo_532 rfl (lv_at hl 0 rfl) ?_
            refine lv_iload_n hx hb dL_isSo_533 rfl (lv_at hl 1 rfl) ?_
            refine lv_iconst (v := 5) hx hb dL_isSo_534 (by decide) ?_
            obtain ⟨r111, hcl, hm⟩ := bnd hm
            refine kVp _ List.perm_append_comm C X (kX5_strokeOf l g D R p1 5 u ts bs ps hs ns r111 hcl) (cw_L_isSo_X5_strokeOf_100 C) 0 (ci := 5) rfl rfl (As := [.int p1, .int 5]) rfl hl (rest := []) rfl (Nat.le_of_ble_eq_true rfl) (st2 := [.int r111]) rfl dL_isSo_535 ⟨Nat.le_of_ble_eq_true rfl, Nat.le_of_ble_eq_true rfl⟩ (w3 := wR g a na f ++ wB g D R u ts bs ps hs ns) (List.Perm.refl _) (fun H locs X => ?_)
            clear hcl
            refine lv_iload hx hb dL_isSo_538 (lv_at hl 6 rfl) ?_
            refine lv_icmp_ne (tgt := 593) hx hb dL_isSo_540 (by decide) (fun hc => ?_) (fun hc => ?_)
            · have hm := ifn hc hm
              cases hm
            · have hm := ifp hc hm
              refine lv_aload_n hx hb dL_isSo_543 rfl (lv_at hl 0 rfl) ?_
              refine lv_iload_n hx hb dL_isSo_544 rfl (lv_at hl 1 rfl) ?_
              refine lv_bipush (v := 6) hx hb dL_isSo_545 (by decide) ?_
              obtain ⟨r112, hcl, hm⟩ := bnd hm
              refine kVp _ List.perm_append_comm C X (kX5_strokeOf l g D R p1 6 u ts bs ps hs ns r112 hcl) (cw_L_isSo_X5_strokeOf_100 C) 0 (ci := 5) rfl rfl (As := [.int p1, .int 6]) rfl hl (rest := []) rfl (Nat.le_of_ble_eq_true rfl) (st2 := [.int r112]) rfl dL_isSo_547 ⟨Nat.le_of_ble_eq_true rfl, Nat.le_of_ble_eq_true rfl⟩ (w3 := wR g a na f ++ wB g D R u ts bs ps hs ns) (List.Perm.refl _) (fun H locs X => ?_)
              clear hcl
              refine lv_iload hx hb dL_isSo_550 (lv_at hl 7 rfl) ?_
              refine lv_icmp_ne (tgt := 593) hx hb dL_isSo_552 (by decide) (fun hc => ?_) (fun hc => ?_)
              · have hm := ifn hc hm
                cases hm
              · have hm := ifp hc hm
                refine lv_aload_n hx hb dL_isSo_555 rfl (lv_at hl 0 rfl) ?_
                refine lv_iload_n hx hb dL_isSo_556 rfl (lv_at hl 1 rfl) ?_
                refine lv_bipush (v := 9) hx hb dL_isSo_557 (by decide) ?_
                obtain ⟨r113, hcl, hm⟩ := bnd hm
                refine kVp _ List.perm_append_comm C X (kX5_strokeOf l g D R p1 9 u ts bs ps hs ns r113 hcl) (cw_L_isSo_X5_strokeOf_100 C) 0 (ci := 5) rfl rfl (As := [.int p1, .int 9]) rfl hl (rest := []) rfl (Nat.le_of_ble_eq_true rfl) (st2 := [.int r113]) rfl dL_isSo_559 ⟨Nat.le_of_ble_eq_true rfl, Nat.le_of_ble_eq_true rfl⟩ (w3 := wR g a na f ++ wB g D R u ts bs ps hs ns) (List.Perm.refl _) (fun H locs X => ?_)
                clear hcl
                refine lv_iload hx hb dL_isSo_562 (lv_at hl 9 rfl) ?_
                refine lv_icmp_ne (tgt := 593) hx hb dL_isSo_564 (by decide) (fun hc => ?_) (fun hc => ?_)
                · have hm := ifn hc hm
                  cases hm
                · have hm := ifp hc hm
                  refine lv_aload_n hx hb dL_isSo_567 rfl (lv_at hl 0 rfl) ?_
                  refine lv_iload_n hx hb dL_isSo_568 rfl (lv_at hl 1 rfl) ?_
                  refine lv_bipush (v := 10) hx hb dL_isSo_569 (by decide) ?_
                  obtain ⟨r114, hcl, hm⟩ := bnd hm
                  refine kVp _ List.perm_append_comm C X (kX5_strokeOf l g D R p1 10 u ts bs ps hs ns r114 hcl) (cw_L_isSo_X5_strokeOf_100 C) 0 (ci := 5) rfl rfl (As := [.int p1, .int 10]) rfl hl (rest := []) rfl (Nat.le_of_ble_eq_true rfl) (st2 := [.int r114]) rfl dL_isSo_571 ⟨Nat.le_of_ble_eq_true rfl, Nat.le_of_ble_eq_true rfl⟩ (w3 := wR g a na f ++ wB g D R u ts bs ps hs ns) (List.Perm.refl _) (fun H locs X => ?_)
                  clear hcl
                  refine lv_iload hx hb dL_isSo_574 (lv_at hl 3 rfl) ?_
                  refine lv_icmp_ne (tgt := 593) hx hb dL_isSo_576 (by decide) (fun hc => ?_) (fun hc => ?_)
                  · have hm := ifn hc hm
                    cases hm
                  · have hm := ifp hc hm
                    refine lv_aload_n hx hb dL_isSo_579 rfl (lv_at hl 0 rfl) ?_
                    refine lv_iload_n hx hb dL_isSo_580 rfl (lv_at hl 1 rfl) ?_
                    obtain ⟨r115, hcl, hm⟩ := bnd hm
                    refine kVp _ List.perm_append_comm C X (kX5_crossings l g D R p1 u ts bs ps hs ns r115 hcl) (cw_L_isSo_X5_crossings_103 C) 0 (ci := 5) rfl rfl (As := [.int p1]) rfl hl (rest := []) rfl (Nat.le_of_ble_eq_true rfl) (st2 := [.int r115]) rfl dL_isSo_581 ⟨Nat.le_of_ble_eq_true rfl, Nat.le_of_ble_eq_true rfl⟩ (w3 := wR g a na f ++ wB g D R u ts bs ps hs ns) (List.Perm.refl _) (fun H locs X => ?_)
                    clear hcl
                    refine lv_iload hx hb dL_isSo_584 (lv_at hl 10 rfl) ?_
                    refine lv_icmp_ne (tgt := 593) hx hb dL_isSo_586 (by decide) (fun hc => ?_) (fun hc => ?_)
                    · have hm := ifn hc hm
                      cases hm
                    · have hm := ifp hc hm
                      refine lv_iconst (v := 1) hx hb dL_isSo_589 (by decide) ?_
                      refine lv_goto (tgt := 594) hx hb dL_isSo_590 (by decide) ?_
                      cases sm hm
                      exact kzret rfl C X dL_isSo_594
