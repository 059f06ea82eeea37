-- L isAhead(LBrushStrokes;I[III)Z
abbrev rL_isAhead : Room := { frames := 7, cells := 0, slots := 0, locals := 190 }
theorem cw_L_isAhead_L_ones_75 {p : Program} {s : State} {m : MethodId} {args : Array Value} {meth : Method} {c : Code} {g : kG} {A : Nat → Prop} (C : CT g p s m args meth c RL cL_isAhead 10 (some .boolean) wsL_isAhead A) : CallB rL_isAhead s args RL 75 yL_ones cL_ones 3 (some .int) wsL_ones rL_ones 0 0 1 ∧ (Cond.static yL_ones).before args s = true := cwS 1 C.2.2.2.2.2.1 gL_isAhead_L_ones rfl rfl rfl (by decide +kernel) ⟨Nat.le_of_ble_eq_true rfl, Nat.le_of_ble_eq_true rfl⟩
theorem cw_L_isAhead_L_low_106 {p : Program} {s : State} {m : MethodId} {args : Array Value} {meth : Method} {c : Code} {g : kG} {A : Nat → Prop} (C : CT g p s m args meth c RL cL_isAhead 10 (some .boolean) wsL_isAhead A) : CallB rL_isAhead s args RL 106 yL_low cL_low 2 (some .int) wsL_low rL_low 0 0 2 ∧ (Cond.static yL_low).before args s = true := cwS 2 C.2.2.2.2.2.1 gL_isAhead_L_low rfl rfl rfl (by decide +kernel) ⟨Nat.le_of_ble_eq_true rfl, Nat.le_of_ble_eq_true rfl⟩
theorem cw_L_isAhead_L_split_115 {p : Program} {s : State} {m : MethodId} {args : Array Value} {meth : Method} {c : Code} {g : kG} {A : Nat → Prop} (C : CT g p s m args meth c RL cL_isAhead 10 (some .boolean) wsL_isAhead A) : CallB rL_isAhead s args RL 115 yL_split cL_split 11 (some .int) wsL_split rL_split 0 0 4 ∧ (Cond.static yL_split).before args s = true := cwS 4 C.2.2.2.2.2.1 gL_isAhead_L_split rfl rfl rfl (by decide +kernel) ⟨Nat.le_of_ble_eq_true rfl, Nat.le_of_ble_eq_true rfl⟩
theorem cw_L_isAhead_X5_leastBound_118 {p : Program} {s : State} {m : MethodId} {args : Array Value} {meth : Method} {c : Code} {g : kG} {A : Nat → Prop} (C : CT g p s m args meth c RL cL_isAhead 10 (some .boolean) wsL_isAhead A) : CallW rL_isAhead s args RL RX5 118 yX5_leastBound cX5_leastBound 5 (some .int) wsX5_leastBound rX5_leastBound 0 0 3 := cwV 3 C.2.2.2.2.2.1 gL_isAhead_X5_leastBound rfl rfl rfl (by decide +kernel) ⟨Nat.le_of_ble_eq_true rfl, Nat.le_of_ble_eq_true rfl⟩
theorem cw_L_isAhead_X5_setting_82 {p : Program} {s : State} {m : MethodId} {args : Array Value} {meth : Method} {c : Code} {g : kG} {A : Nat → Prop} (C : CT g p s m args meth c RL cL_isAhead 10 (some .boolean) wsL_isAhead A) : CallW rL_isAhead s args RL RX5 82 yX5_setting cX5_setting 2 (some .int) wsX5_setting rX5_setting 0 0 1 := cwV 1 C.2.2.2.2.2.1 gL_isAhead_X5_setting rfl rfl rfl (by decide +kernel) ⟨Nat.le_of_ble_eq_true rfl, Nat.le_of_ble_eq_true rfl⟩
theorem cw_L_isAhead_L_fewest_109 {p : Program} {s : State} {m : MethodId} {args : Array Value} {meth : Method} {c : Code} {g : kG} {A : Nat → Prop} (C : CT g p s m args meth c RL cL_isAhead 10 (some .boolean) wsL_isAhead A) : CallB rL_isAhead s args RL 109 yL_fewest cL_fewest 6 (some .int) wsL_fewest rL_fewest 0 0 4 ∧ (Cond.static yL_fewest).before args s = true := cwS 4 C.2.2.2.2.2.1 gL_isAhead_L_fewest rfl rfl rfl (by decide +kernel) ⟨Nat.le_of_ble_eq_true rfl, Nat.le_of_ble_eq_true rfl⟩
theorem cw_L_isAhead_L_fixed_85 {p : Program} {s : State} {m : MethodId} {args : Array Value} {meth : Method} {c : Code} {g : kG} {A : Nat → Prop} (C : CT g p s m args meth c RL cL_isAhead 10 (some .boolean) wsL_isAhead A) : CallB rL_isAhead s args RL 85 yL_fixed cL_fixed 6 (some .int) wsL_fixed rL_fixed 0 0 5 ∧ (Cond.static yL_fixed).before args s = true := cwS 5 C.2.2.2.2.2.1 gL_isAhead_L_fixed rfl rfl rfl (by decide +kernel) ⟨Nat.le_of_ble_eq_true rfl, Nat.le_of_ble_eq_true rfl⟩
theorem cw_L_isAhead_X5_ifSimplified_112 {p : Program} {s : State} {m : MethodId} {args : Array Value} {meth : Method} {c : Code} {g : kG} {A : Nat → Prop} (C : CT g p s m args meth c RL cL_isAhead 10 (some .boolean) wsL_isAhead A) : CallW rL_isAhead s args RL RX5 112 yX5_ifSimplified cX5_ifSimplified 5 (some .int) wsX5_ifSimplified rX5_ifSimplified 0 0 3 := cwV 3 C.2.2.2.2.2.1 gL_isAhead_X5_ifSimplified rfl rfl rfl (by decide +kernel) ⟨Nat.le_of_ble_eq_true rfl, Nat.le_of_ble_eq_true rfl⟩
noncomputable def bL_isAhead_6 (c2 : Int32) (w6 : ShS) (w12 : (Nat → Int32)) (na : Nat) : Int32 × Int32 → Option ((Int32 × Int32) ⊕ (Int32))
  | (x4, x5) => if c2 ≤ x5 then (some (.inr x4)) else ((fX5_setting 1 w6).bind fun r14 => (fX5_setting 2 w6).bind fun r15 => (fL_fixed c2 x5 r14 r15 na w12).bind fun r16 => ((if r16 ≤ 0 then (some 0) else (some (1 <<< (x5 &&& 31)))) : Option (Int32)).bind fun v17 => some (.inl (x4 ||| v17, x5 + 1)))
noncomputable def lL_isAhead_6 (c2 : Int32) (w6 : ShS) (w12 : (Nat → Int32)) (na : Nat) (x4 : Int32) (x5 : Int32) : Option (Int32) := lp (bL_isAhead_6 c2 w6 w12 na) (x4, x5)
theorem lL_isAhead_6_eq (c2 : Int32) (w6 : ShS) (w12 : (Nat → Int32)) (na : Nat) (x4 : Int32) (x5 : Int32) : lL_isAhead_6 c2 w6 w12 na x4 x5 = (if c2 ≤ x5 then (some (.inr x4)) else ((fX5_setting 1 w6).bind fun r14 => (fX5_setting 2 w6).bind fun r15 => (fL_fixed c2 x5 r14 r15 na w12).bind fun r16 => ((if r16 ≤ 0 then (some 0) else (some (1 <<< (x5 &&& 31)))) : Option (Int32)).bind fun v17 => some (.inl (x4 ||| v17, x5 + 1)))).bind fun r => Sum.elim (fun z => lL_isAhead_6 c2 w6 w12 na z.1 z.2) (fun r => some r) r := lp_eq (bL_isAhead_6 c2 w6 w12 na) (x4, x5)
set_option maxRecDepth 100000 in
set_option maxHeartbeats 4000000 in
theorem tL_isAhead_6 {p : Program} {l : Launch} {e : Env} {s : State} {m : MethodId} {args : Array Value} {below : List Frame} {meth : Method} {c : Code} {g : kG} {A : Nat → Prop} {Q : State → Prop} (D : Nat → Nat → Nat) (R : kAd) (a : Nat → Nat) (C : CT g p s m args meth c RL cL_isAhead 10 (some .boolean) wsL_isAhead A) (c1 : Int32) (c2 : Int32) (c3 : Int32) (w6 : ShS) (w7 : TS) (w8 : SS) (w9 : PS) (w10 : HS) (w11 : NS) (w12 : (Nat → Int32)) (na : Nat) (y13 : Int32) (kk : ∀ (H : Heap) (locs : List Loc) (ls : Array Slot), ST g A s H locs (wR g a na w12 ++ wB g D R w6 w7 w8 w9 w10 w11) → lv_has ls 10 [(0, .ref (D 0 0)), (1, .int c1), (2, .ref (a 0)), (3, .int c2), (4, .int c3), (5, .int y13)] → W p l e rL_isAhead s m args below meth c H locs 0 0 Q (F0 m 51 ls [])) : ∀ (n : Nat) (x4 : Int32) (x5 : Int32), whl (bL_isAhead_6 c2 w6 w12 na) n (x4, x5) = some y13 → ∀ (H : Heap) (locs : List Loc) (ls : Array Slot), ST g A s H locs (wR g a na w12 ++ wB g D R w6 w7 w8 w9 w10 w11) → lv_has ls 10 [(0, .ref (D 0 0)), (1, .int c1), (2, .ref (a 0)), (3, .int c2), (4, .int c3), (5, .int x4), (6, .int x5)] → W p l e rL_isAhead s m args below meth c H locs 0 0 Q (F0 m 6 ls []) := by
  have hx := C.1
  have hb := C.2.1
  intro n
  induction n with
  | zero =>
    intro x4 x5 hm
    cases hm
  | succ n ih =>
    intro x4 x5 hm H locs ls X hl
    rw [whl] at hm
    obtain ⟨q, hq, hm2⟩ := bnd hm
    clear hm
    have hm := hq
    clear hq
    rw [bL_isAhead_6] at hm
    refine lv_iload hx hb dL_isAhead_6 (lv_at hl 6 rfl) ?_
    refine lv_iload_n hx hb dL_isAhead_8 rfl (lv_at hl 3 rfl) ?_
    refine lv_icmp_ge (tgt := 51) hx hb dL_isAhead_9 (by decide) (fun hc => ?_) (fun hc => ?_)
    · have hm := ifp hc hm
      cases sm hm
      cases sm hm2
      exact kk _ _ _ X (lv_sub hl [0, 1, 2, 3, 4, 5] rfl)
    · have hm := ifn hc hm
      refine lv_iload hx hb dL_isAhead_12 (lv_at hl 5 rfl) ?_
      refine lv_aload_n hx hb dL_isAhead_14 rfl (lv_at hl 2 rfl) ?_
      refine lv_iload_n hx hb dL_isAhead_15 rfl (lv_at hl 3 rfl) ?_
      refine lv_iload hx hb dL_isAhead_16 (lv_at hl 6 rfl) ?_
      refine lv_aload_n hx hb dL_isAhead_18 rfl (lv_at hl 0 rfl) ?_
      refine lv_iconst (v := 1) hx hb dL_isAhead_19 (by decide) ?_
      obtain ⟨r14, hcl, hm⟩ := bnd hm
      refine kVp _ List.perm_append_comm C X (kX5_setting l g D R 1 w6 w7 w8 w9 w10 w11 r14 hcl) (cw_L_isAhead_X5_setting_82 C) 0 (ci := 5) rfl rfl (As := [.int 1]) rfl hl (rest := [.int x5, .int c2, .ref (a 0), .int x4]) rfl (Nat.le_of_ble_eq_true rfl) (st2 := [.int r14, .int x5, .int c2, .ref (a 0), .int x4]) rfl dL_isAhead_20 ⟨Nat.le_of_ble_eq_true rfl, Nat.le_of_ble_eq_true rfl⟩ (w3 := wR g a na w12 ++ wB g D R w6 w7 w8 w9 w10 w11) (List.Perm.refl _) (fun H locs X => ?_)
      clear hcl
      refine lv_aload_n hx hb dL_isAhead_23 rfl (lv_at hl 0 rfl) ?_
      refine lv_iconst (v := 2) hx hb dL_isAhead_24 (by decide) ?_
      obtain ⟨r15, hcl, hm⟩ := bnd hm
      refine kVp _ List.perm_append_comm C X (kX5_setting l g D R 2 w6 w7 w8 w9 w10 w11 r15 hcl) (cw_L_isAhead_X5_setting_82 C) 0 (ci := 5) rfl rfl (As := [.int 2]) rfl hl (rest := [.int r14, .int x5, .int c2, .ref (a 0), .int x4]) rfl (Nat.le_of_ble_eq_true rfl) (st2 := [.int r15, .int r14, .int x5, .int c2, .ref (a 0), .int x4]) rfl dL_isAhead_25 ⟨Nat.le_of_ble_eq_true rfl, Nat.le_of_ble_eq_true rfl⟩ (w3 := wR g a na w12 ++ wB g D R w6 w7 w8 w9 w10 w11) (List.Perm.refl _) (fun H locs X => ?_)
      clear hcl
      obtain ⟨r16, hcl, hm⟩ := bnd hm
      refine kSp _ (List.Perm.refl _) C X (kL_fixed l g a c2 x5 r14 r15 na w12 r16 hcl) (cw_L_isAhead_L_fixed_85 C) (As := [.ref (a 0), .int c2, .int x5, .int r14, .int r15]) rfl hl (rest := [.int x4]) rfl (Nat.le_of_ble_eq_true rfl) (st2 := [.int r16, .int x4]) rfl dL_isAhead_28 ⟨Nat.le_of_ble_eq_true rfl, Nat.le_of_ble_eq_true rfl⟩ (w3 := wR g a na w12 ++ wB g D R w6 w7 w8 w9 w10 w11) List.perm_append_comm (fun H locs X => ?_)
      clear hcl
      obtain ⟨v17, hE, hm⟩ := bnd hm
      have K : ∀ (H : Heap) (locs : List Loc) (ls : Array Slot), ST g A s H locs (wR g a na w12 ++ wB g D R w6 w7 w8 w9 w10 w11) → lv_has ls 10 [(0, .ref (D 0 0)), (1, .int c1), (2, .ref (a 0)), (3, .int c2), (4, .int c3), (6, .int x5)] → W p l e rL_isAhead s m args below meth c H locs 0 0 Q (F0 m 42 ls [.int v17, .int x4]) := by
        intro H locs ls X hl
        clear hE
        refine lv_ior hx hb dL_isAhead_42 ?_
        refine lv_istore (lv' := [(5, .int (x4 ||| v17)), (0, .ref (D 0 0)), (1, .int c1), (2, .ref (a 0)), (3, .int c2), (4, .int c3), (6, .int x5)]) hx hb dL_isAhead_43 hl (by decide) rfl (fun ls hl => ?_)
        refine lv_iinc (v := x5 + 1) (lv' := [(6, .int (x5 + 1)), (5, .int (x4 ||| v17)), (0, .ref (D 0 0)), (1, .int c1), (2, .ref (a 0)), (3, .int c2), (4, .int c3)]) hx hb dL_isAhead_45 hl (k := 6) rfl rfl (by decide) rfl (fun ls hl => ?_)
        refine lv_goto (tgt := 6) hx hb dL_isAhead_48 (by decide) ?_
        cases sm hm
        exact ih _ _ hm2 _ _ _ X (lv_sub hl [2, 3, 4, 5, 6, 1, 0] rfl)
      clear hm
      have hm := hE
      clear hE
      refine lv_if_le (tgt := 41) hx hb dL_isAhead_31 (by decide) (fun hc => ?_) (fun hc => ?_)
      · have hm := ifp hc hm
        refine lv_iconst (v := 0) hx hb dL_isAhead_41 (by decide) ?_
        cases sm hm
        exact K _ _ _ X (lv_sub hl [0, 1, 2, 3, 4, 6] rfl)
      · have hm := ifn hc hm
        refine lv_iconst (v := 1) hx hb dL_isAhead_34 (by decide) ?_
        refine lv_iload hx hb dL_isAhead_35 (lv_at hl 6 rfl) ?_
        refine lv_ishl hx hb dL_isAhead_37 ?_
        refine lv_goto (tgt := 42) hx hb dL_isAhead_38 (by decide) ?_
        cases sm hm
        exact K _ _ _ X (lv_sub hl [0, 1, 2, 3, 4, 6] rfl)
noncomputable def bL_isAhead_129 (c30 : Int32) (c31 : Int32) (c32 : Int32) (w40 : (Nat → Int32)) (na : Nat) (x33 : Int32) : Option ((Int32) ⊕ (Int32)) := if 51 ≤ x33 then (some (.inr x33)) else ((fL_split c30 c31 x33 na w40).bind fun r42 => (fL_ones r42).bind fun r43 => if r43 ≤ c32 then (some (.inr x33)) else (some (.inl (x33 + 1))))
noncomputable def lL_isAhead_129 (c30 : Int32) (c31 : Int32) (c32 : Int32) (w40 : (Nat → Int32)) (na : Nat) (x33 : Int32) : Option (Int32) := lp (bL_isAhead_129 c30 c31 c32 w40 na) x33
theorem lL_isAhead_129_eq (c30 : Int32) (c31 : Int32) (c32 : Int32) (w40 : (Nat → Int32)) (na : Nat) (x33 : Int32) : lL_isAhead_129 c30 c31 c32 w40 na x33 = (if 51 ≤ x33 then (some (.inr x33)) else ((fL_split c30 c31 x33 na w40).bind fun r42 => (fL_ones r42).bind fun r43 => if r43 ≤ c32 then (some (.inr x33)) else (some (.inl (x33 + 1))))).bind fun r => Sum.elim (fun z => lL_isAhead_129 c30 c31 c32 w40 na z) (fun r => some r) r := lp_eq (bL_isAhead_129 c30 c31 c32 w40 na) x33
set_option maxRecDepth 100000 in
set_option maxHeartbeats 4000000 in
theorem tL_isAhead_129 {p : Program} {l : Launch} {e : Env} {s : State} {m : MethodId} {args : Array Value} {below : List Frame} {meth : Method} {c : Code} {g : kG} {A : Nat → Prop} {Q : State → Prop} (D : Nat → Nat → Nat) (R : kAd) (a : Nat → Nat) (C : CT g p s m args meth c RL cL_isAhead 10 (some .boolean) wsL_isAhead A) (c29 : Int32) (c30 : Int32) (c31 : Int32) (c32 : Int32) (w34 : ShS) (w35 : TS) (w36 : SS) (w37 : PS) (w38 : HS) (w39 : NS) (w40 : (Nat → Int32)) (na : Nat) (y41 : Int32) (kk : ∀ (H : Heap) (locs : List Loc) (ls : Array Slot), ST g A s H locs (wR g a na w40 ++ wB g D R w34 w35 w36 w37 w38 w39) → lv_has ls 10 [(0, .ref (D 0 0)), (1, .int c29), (2, .ref (a 0)), (3, .int c30), (5, .int c31), (8, .int c32), (9, .int y41)] → W p l e rL_isAhead s m args below meth c H locs 0 0 Q (F0 m 159 ls [])) : ∀ (n : Nat) (x33 : Int32), whl (bL_isAhead_129 c30 c31 c32 w40 na) n x33 = some y41 → ∀ (H : Heap) (locs : List Loc) (ls : Array Slot), ST g A s H locs (wR g a na w40 ++ wB g D R w34 w35 w36 w37 w38 w39) → lv_has ls 10 [(0, .ref (D 0 0)), (1, .int c29), (2, .ref (a 0)), (3, .int c30), (5, .int c31), (8, .int c32), (9, .int x33)] → W p l e rL_isAhead s m args below meth c H locs 0 0 Q (F0 m 129 ls []) := by
  have hx := C.1
  have hb := C.2.1
  intro n
  induction n with
  | zero =>
    intro x33 hm
    cases hm
  | succ n ih =>
    intro x33 hm H locs ls X hl
    rw [whl] at hm
    obtain ⟨q, hq, hm2⟩ := bnd hm
    clear hm
    have hm := hq
    clear hq
    rw [bL_isAhead_129] at hm
    refine lv_iload hx hb dL_isAhead_129 (lv_at hl 6 rfl) ?_
    refine lv_bipush (v := 51) hx hb dL_isAhead_131 (by decide) ?_
    refine lv_icmp_ge (tgt := 159) hx hb dL_isAhead_133 (by decide) (fun hc => ?_) (fun hc => ?_)
    · have hm := ifp hc hm
      cases sm hm
      cases sm hm2
      exact kk _ _ _ X (lv_sub hl [0, 1, 2, 3, 4, 5, 6] rfl)
    · have hm := ifn hc hm
      refine lv_aload_n hx hb dL_isAhead_136 rfl (lv_at hl 2 rfl) ?_
      refine lv_iload_n hx hb dL_isAhead_137 rfl (lv_at hl 3 rfl) ?_
      refine lv_iload hx hb dL_isAhead_138 (lv_at hl 4 rfl) ?_
      refine lv_iload hx hb dL_isAhead_140 (lv_at hl 6 rfl) ?_
      obtain ⟨r42, hcl, hm⟩ := bnd hm
      refine kSp _ (List.Perm.refl _) C X (kL_split l g a c30 c31 x33 na w40 r42 hcl) (cw_L_isAhead_L_split_115 C) (As := [.ref (a 0), .int c30, .int c31, .int x33]) rfl hl (rest := []) rfl (Nat.le_of_ble_eq_true rfl) (st2 := [.int r42]) rfl dL_isAhead_142 ⟨Nat.le_of_ble_eq_true rfl, Nat.le_of_ble_eq_true rfl⟩ (w3 := wR g a na w40 ++ wB g D R w34 w35 w36 w37 w38 w39) List.perm_append_comm (fun H locs X => ?_)
      clear hcl
      obtain ⟨r43, hcl, hm⟩ := bnd hm
      refine kS0c C X (kL_ones l g r42 r43 hcl) (cw_L_isAhead_L_ones_75 C) (As := [.int r42]) rfl hl (rest := []) rfl (Nat.le_of_ble_eq_true rfl) (st2 := [.int r43]) rfl dL_isAhead_145 ⟨Nat.le_of_ble_eq_true rfl, Nat.le_of_ble_eq_true rfl⟩ (fun H locs X => ?_)
      clear hcl
      refine lv_iload hx hb dL_isAhead_148 (lv_at hl 5 rfl) ?_
      refine lv_icmp_le (tgt := 159) hx hb dL_isAhead_150 (by decide) (fun hc => ?_) (fun hc => ?_)
      · have hm := ifp hc hm
        cases sm hm
        cases sm hm2
        exact kk _ _ _ X (lv_sub hl [0, 1, 2, 3, 4, 5, 6] rfl)
      · have hm := ifn hc hm
        refine lv_iinc (v := x33 + 1) (lv' := [(9, .int (x33 + 1)), (0, .ref (D 0 0)), (1, .int c29), (2, .ref (a 0)), (3, .int c30), (5, .int c31), (8, .int c32)]) hx hb dL_isAhead_153 hl (k := 6) rfl rfl (by decide) rfl (fun ls hl => ?_)
        refine lv_goto (tgt := 129) hx hb dL_isAhead_156 (by decide) ?_
        cases sm hm
        exact ih _ hm2 _ _ _ X (lv_sub hl [1, 2, 3, 4, 5, 6, 0] rfl)
noncomputable def fL_isAhead (p1 : Int32) (p2 : Int32) (p3 : Int32) (na : Nat) (u : ShS) (ps : PS) (f : (Nat → Int32)) : Option (Int32 × PS) := (lL_isAhead_6 p2 u f na 0 0).bind fun y18 => (fL_low p3 51).bind fun r19 => (fL_fewest p2 y18 r19 na f).bind fun r20 => (fX5_ifSimplified p1 r19 0 u ps).bind fun (r21, s22) => (fL_split p2 y18 r19 na f).bind fun r23 => (fL_ones r23).bind fun r24 => if r21 = r24 then ((fX5_ifSimplified p1 r19 1 u s22).bind fun (r25, s26) => (fL_ones r20).bind fun r27 => if r25 = r27 then ((fL_low (p3 >>> (6 &&& 31)) 8).bind fun r28 => (lL_isAhead_129 p2 y18 (2 + r28) f na 0).bind fun y44 => (fX5_leastBound p1 (2 + r28) 0 u s26).bind fun (r45, s46) => ((if y44 ≤ 50 then (some y44) else (some (-1))) : Option (Int32)).bind fun v47 => if r45 = v47 then ((fX5_leastBound p1 (2 + r28) 1 u s46).bind fun (r48, s49) => ((if 0 ≤ r48 then ((fL_fewest p2 y18 r48 na f).bind fun r59 => (fL_ones r59).bind fun r60 => if (2 + r28) < r60 then none else (((if r48 = 0 then (some ()) else ((fL_fewest p2 y18 (r48 - 1) na f).bind fun r63 => (fL_ones r63).bind fun r64 => if r64 ≤ (2 + r28) then none else (some ()))) : Option (Unit)).bind fun _ => some 1)) else ((fL_fewest p2 y18 50 na f).bind fun r65 => (fL_ones r65).bind fun r66 => if r66 ≤ (2 + r28) then none else (some 1))) : Option (Int32)).bind fun v58 => gd (isb v58) (some (v58, s49))) else none) else none) else none
set_option maxRecDepth 100000 in
set_option maxHeartbeats 4000000 in
theorem kL_isAhead (l : Launch) (g : kG) (D : Nat → Nat → Nat) (R : kAd) (a : Nat → Nat) (p1 : Int32) (p2 : Int32) (p3 : Int32) (na : Nat) (u : ShS) (ts : TS) (bs : SS) (ps : PS) (hs : HS) (ns : NS) (f : (Nat → Int32)) (o1 : Int32) (o2 : PS) (hm : fL_isAhead p1 p2 p3 na u ps f = some (o1, o2)) : KM l yL_isAhead wsL_isAhead rL_isAhead g [.ref (D 0 0), .int p1, .ref (a 0), .int p2, .int p3] (wR g a na f ++ wB g D R u ts bs ps hs ns) (some (.int o1)) (wR g a na f ++ wB g D R u ts bs o2 hs ns) 0 0 := by
  refine KM.of (nL := 10) (by decide) rfl (Nat.le_of_ble_eq_true rfl) ?_
  intro p e s m args below meth c A ls C X hl
  have C : CT g p s m args meth c RL cL_isAhead 10 (some .boolean) wsL_isAhead A := C
  have hx := C.1
  have hb := C.2.1
  have hl : lv_has ls 10 [(0, .ref (D 0 0)), (1, .int p1), (2, .ref (a 0)), (3, .int p2), (4, .int p3)] := hl
  rw [fL_isAhead] at hm
  refine lv_iconst (v := 0) hx hb dL_isAhead_0 (by decide) ?_
  refine lv_istore (lv' := [(5, .int 0), (0, .ref (D 0 0)), (1, .int p1), (2, .ref (a 0)), (3, .int p2), (4, .int p3)]) hx hb dL_isAhead_1 hl (by decide) rfl (fun ls hl => ?_)
  refine lv_iconst (v := 0) hx hb dL_isAhead_3 (by decide) ?_
  refine lv_istore (lv' := [(6, .int 0), (5, .int 0), (0, .ref (D 0 0)), (1, .int p1), (2, .ref (a 0)), (3, .int p2), (4, .int p3)]) hx hb dL_isAhead_4 hl (by decide) rfl (fun ls hl => ?_)
  obtain ⟨y18, hL, hm⟩ := bnd hm
  obtain ⟨nn, hn⟩ := lp_run hL
  refine tL_isAhead_6 D R a C p1 p2 p3 u ts bs ps hs ns f na y18 (fun H locs ls X hl => ?_) nn _ _ hn _ _ _ X (lv_sub hl [2, 3, 4, 5, 6, 1, 0] rfl)
  clear hL hn
  refine lv_iload hx hb dL_isAhead_51 (lv_at hl 4 rfl) ?_
  refine lv_bipush (v := 51) hx hb dL_isAhead_53 (by decide) ?_
  obtain ⟨r19, hcl, hm⟩ := bnd hm
  refine kS0c C X (kL_low l g p3 51 r19 hcl) (cw_L_isAhead_L_low_106 C) (As := [.int p3, .int 51]) rfl hl (rest := []) rfl (Nat.le_of_ble_eq_true rfl) (st2 := [.int r19]) rfl dL_isAhead_55 ⟨Nat.le_of_ble_eq_true rfl, Nat.le_of_ble_eq_true rfl⟩ (fun H locs X => ?_)
  clear hcl
  refine lv_istore (lv' := [(6, .int r19), (0, .ref (D 0 0)), (1, .int p1), (2, .ref (a 0)), (3, .int p2), (4, .int p3), (5, .int y18)]) hx hb dL_isAhead_58 hl (by decide) rfl (fun ls hl => ?_)
  refine lv_aload_n hx hb dL_isAhead_60 rfl (lv_at hl 3 rfl) ?_
  refine lv_iload_n hx hb dL_isAhead_61 rfl (lv_at hl 4 rfl) ?_
  refine lv_iload hx hb dL_isAhead_62 (lv_at hl 6 rfl) ?_
  refine lv_iload hx hb dL_isAhead_64 (lv_at hl 0 rfl) ?_
  obtain ⟨r20, hcl, hm⟩ := bnd hm
  refine kSp _ (List.Perm.refl _) C X (kL_fewest l g a p2 y18 r19 na f r20 hcl) (cw_L_isAhead_L_fewest_109 C) (As := [.ref (a 0), .int p2, .int y18, .int r19]) rfl hl (rest := []) rfl (Nat.le_of_ble_eq_true rfl) (st2 := [.int r20]) rfl dL_isAhead_66 ⟨Nat.le_of_ble_eq_true rfl, Nat.le_of_ble_eq_true rfl⟩ (w3 := wR g a na f ++ wB g D R u ts bs ps hs ns) List.perm_append_comm (fun H locs X => ?_)
  clear hcl
  refine lv_istore (lv' := [(7, .int r20), (6, .int r19), (0, .ref (D 0 0)), (1, .int p1), (2, .ref (a 0)), (3, .int p2), (4, .int p3), (5, .int y18)]) hx hb dL_isAhead_69 hl (by decide) rfl (fun ls hl => ?_)
  refine lv_aload_n hx hb dL_isAhead_71 rfl (lv_at hl 2 rfl) ?_
  refine lv_iload_n hx hb dL_isAhead_72 rfl (lv_at hl 3 rfl) ?_
  refine lv_iload hx hb dL_isAhead_73 (lv_at hl 1 rfl) ?_
  refine lv_iconst (v := 0) hx hb dL_isAhead_75 (by decide) ?_
  obtain ⟨⟨r21, s22⟩, hcl, hm⟩ := bnd hm
  refine kVp _ List.perm_append_comm C X (kX5_ifSimplified l g D R p1 r19 0 u ts bs ps hs ns r21 s22 hcl) (cw_L_isAhead_X5_ifSimplified_112 C) 0 (ci := 5) rfl rfl (As := [.int p1, .int r19, .int 0]) rfl hl (rest := []) rfl (Nat.le_of_ble_eq_true rfl) (st2 := [.int r21]) rfl dL_isAhead_76 ⟨Nat.le_of_ble_eq_true rfl, Nat.le_of_ble_eq_true rfl⟩ (w3 := wR g a na f ++ wB g D R u ts bs s22 hs ns) (List.Perm.refl _) (fun H locs X => ?_)
  clear hcl
  refine lv_aload_n hx hb dL_isAhead_79 rfl (lv_at hl 4 rfl) ?_
  refine lv_iload_n hx hb dL_isAhead_80 rfl (lv_at hl 5 rfl) ?_
  refine lv_iload hx hb dL_isAhead_81 (lv_at hl 7 rfl) ?_
  refine lv_iload hx hb dL_isAhead_83 (lv_at hl 1 rfl) ?_
  obtain ⟨r23, hcl, hm⟩ := bnd hm
  refine kSp _ (List.Perm.refl _) C X (kL_split l g a p2 y18 r19 na f r23 hcl) (cw_L_isAhead_L_split_115 C) (As := [.ref (a 0), .int p2, .int y18, .int r19]) rfl hl (rest := [.int r21]) rfl (Nat.le_of_ble_eq_true rfl) (st2 := [.int r23, .int r21]) rfl dL_isAhead_85 ⟨Nat.le_of_ble_eq_true rfl, Nat.le_of_ble_eq_true rfl⟩ (w3 := wR g a na f ++ wB g D R u ts bs s22 hs ns) List.perm_append_comm (fun H locs X => ?_)
  clear hcl
  obtain ⟨r24, hcl, hm⟩ := bnd hm
  refine kS0c C X (kL_ones l g r23 r24 hcl) (cw_L_isAhead_L_ones_75 C) (As := [.int r23]) rfl hl (rest := [.int r21]) rfl (Nat.le_of_ble_eq_true rfl) (st2 := [.int r24, .int r21]) rfl dL_isAhead_88 ⟨Nat.le_of_ble_eq_true rfl, Nat.le_of_ble_eq_true rfl⟩ (fun H locs X => ?_)
  clear hcl
  refine lv_icmp_ne (tgt := 110) hx hb dL_isAhead_91 (by decide) (fun hc => ?_) (fun hc => ?_)
  · have hm := ifn hc hm
    cases hm
  · have hm := ifp hc hm
    refine lv_aload_n hx hb dL_isAhead_94 rfl (lv_at hl 2 rfl) ?_
    refine lv_iload_n hx hb dL_isAhead_95 rfl (lv_at hl 3 rfl) ?_
    refine lv_iload hx hb dL_isAhead_96 (lv_at hl 1 rfl) ?_
    refine lv_iconst (v := 1) hx hb dL_isAhead_98 (by decide) ?_
    obtain ⟨⟨r25, s26⟩, hcl, hm⟩ := bnd hm
    refine kVp _ List.perm_append_comm C X (kX5_ifSimplified l g D R p1 r19 1 u ts bs s22 hs ns r25 s26 hcl) (cw_L_isAhead_X5_ifSimplified_112 C) 0 (ci := 5) rfl rfl (As := [.int p1, .int r19, .int 1]) rfl hl (rest := []) rfl (Nat.le_of_ble_eq_true rfl) (st2 := [.int r25]) rfl dL_isAhead_99 ⟨Nat.le_of_ble_eq_true rfl, Nat.le_of_ble_eq_true rfl⟩ (w3 := wR g a na f ++ wB g D R u ts bs s26 hs ns) (List.Perm.refl _) (fun H locs X => ?_)
    clear hcl
    refine lv_iload hx hb dL_isAhead_102 (lv_at hl 0 rfl) ?_
    obtain ⟨r27, hcl, hm⟩ := bnd hm
    refine kS0c C X (kL_ones l g r20 r27 hcl) (cw_L_isAhead_L_ones_75 C) (As := [.int r20]) rfl hl (rest := [.int r25]) rfl (Nat.le_of_ble_eq_true rfl) (st2 := [.int r27, .int r25]) rfl dL_isAhead_104 ⟨Nat.le_of_ble_eq_true rfl, Nat.le_of_ble_eq_true rfl⟩ (fun H locs X => ?_)
    clear hcl
    refine lv_icmp_eq (tgt := 112) hx hb dL_isAhead_107 (by decide) (fun hc => ?_) (fun hc => ?_)
    · have hm := ifp hc hm
      refine lv_iconst (v := 2) hx hb dL_isAhead_112 (by decide) ?_
      refine lv_iload hx hb dL_isAhead_113 (lv_at hl 6 rfl) ?_
      refine lv_bipush (v := 6) hx hb dL_isAhead_115 (by decide) ?_
      refine lv_ishr hx hb dL_isAhead_117 ?_
      refine lv_bipush (v := 8) hx hb dL_isAhead_118 (by decide) ?_
      obtain ⟨r28, hcl, hm⟩ := bnd hm
      refine kS0c C X (kL_low l g (p3 >>> (6 &&& 31)) 8 r28 hcl) (cw_L_isAhead_L_low_106 C) (As := [.int (p3 >>> (6 &&& 31)), .int 8]) rfl hl (rest := [.int 2]) rfl (Nat.le_of_ble_eq_true rfl) (st2 := [.int r28, .int 2]) rfl dL_isAhead_120 ⟨Nat.le_of_ble_eq_true rfl, Nat.le_of_ble_eq_true rfl⟩ (fun H locs X => ?_)
      clear hcl
      refine lv_iadd hx hb dL_isAhead_123 ?_
      refine lv_istore (lv' := [(8, .int (2 + r28)), (7, .int r20), (6, .int r19), (0, .ref (D 0 0)), (1, .int p1), (2, .ref (a 0)), (3, .int p2), (4, .int p3), (5, .int y18)]) hx hb dL_isAhead_124 hl (by decide) rfl (fun ls hl => ?_)
      refine lv_iconst (v := 0) hx hb dL_isAhead_126 (by decide) ?_
      refine lv_istore (lv' := [(9, .int 0), (8, .int (2 + r28)), (7, .int r20), (6, .int r19), (0, .ref (D 0 0)), (1, .int p1), (2, .ref (a 0)), (3, .int p2), (4, .int p3), (5, .int y18)]) hx hb dL_isAhead_127 hl (by decide) rfl (fun ls hl => ?_)
      obtain ⟨y44, hL, hm⟩ := bnd hm
      obtain ⟨nn, hn⟩ := lp_run hL
      refine tL_isAhead_129 D R a C p1 p2 y18 (2 + r28) u ts bs s26 hs ns f na y44 (fun H locs ls X hl => ?_) nn _ hn _ _ _ X (lv_sub hl [4, 5, 6, 7, 9, 1, 0] rfl)
      clear hL hn
      refine lv_aload_n hx hb dL_isAhead_159 rfl (lv_at hl 0 rfl) ?_
      refine lv_iload_n hx hb dL_isAhead_160 rfl (lv_at hl 1 rfl) ?_
      refine lv_iload hx hb dL_isAhead_161 (lv_at hl 5 rfl) ?_
      refine lv_iconst (v := 0) hx hb dL_isAhead_163 (by decide) ?_
      obtain ⟨⟨r45, s46⟩, hcl, hm⟩ := bnd hm
      refine kVp _ List.perm_append_comm C X (kX5_leastBound l g D R p1 (2 + r28) 0 u ts bs s26 hs ns r45 s46 hcl) (cw_L_isAhead_X5_leastBound_118 C) 0 (ci := 5) rfl rfl (As := [.int p1, .int (2 + r28), .int 0]) rfl hl (rest := []) rfl (Nat.le_of_ble_eq_true rfl) (st2 := [.int r45]) rfl dL_isAhead_164 ⟨Nat.le_of_ble_eq_true rfl, Nat.le_of_ble_eq_true rfl⟩ (w3 := wR g a na f ++ wB g D R u ts bs s46 hs ns) (List.Perm.refl _) (fun H locs X => ?_)
      clear hcl
      refine lv_iload hx hb dL_isAhead_167 (lv_at hl 6 rfl) ?_
      refine lv_bipush (v := 50) hx hb dL_isAhead_169 (by decide) ?_
      obtain ⟨v47, hE, hm⟩ := bnd hm
      have K : ∀ (H : Heap) (locs : List Loc) (ls : Array Slot), ST g A s H locs (wR g a na f ++ wB g D R u ts bs s46 hs ns) → lv_has ls 10 [(0, .ref (D 0 0)), (1, .int p1), (2, .ref (a 0)), (3, .int p2), (5, .int y18), (8, .int (2 + r28))] → W p l e rL_isAhead s m args below meth c H locs 0 0 (kEnd g below args s (some (.int o1)) (wR g a na f ++ wB g D R u ts bs o2 hs ns) A 0 0) (F0 m 180 ls [.int v47, .int r45]) := by
        intro H locs ls X hl
        clear hE
        refine lv_icmp_eq (tgt := 185) hx hb dL_isAhead_180 (by decide) (fun hc => ?_) (fun hc => ?_)
        · have hm := ifp hc hm
          refine lv_aload_n hx hb dL_isAhead_185 rfl (lv_at hl 0 rfl) ?_
          refine lv_iload_n hx hb dL_isAhead_186 rfl (lv_at hl 1 rfl) ?_
          refine lv_iload hx hb dL_isAhead_187 (lv_at hl 5 rfl) ?_
          refine lv_iconst (v := 1) hx hb dL_isAhead_189 (by decide) ?_
          obtain ⟨⟨r48, s49⟩, hcl, hm⟩ := bnd hm
          refine kVp _ List.perm_append_comm C X (kX5_leastBound l g D R p1 (2 + r28) 1 u ts bs s46 hs ns r48 s49 hcl) (cw_L_isAhead_X5_leastBound_118 C) 0 (ci := 5) rfl rfl (As := [.int p1, .int (2 + r28), .int 1]) rfl hl (rest := []) rfl (Nat.le_of_ble_eq_true rfl) (st2 := [.int r48]) rfl dL_isAhead_190 ⟨Nat.le_of_ble_eq_true rfl, Nat.le_of_ble_eq_true rfl⟩ (w3 := wR g a na f ++ wB g D R u ts bs s49 hs ns) (List.Perm.refl _) (fun H locs X => ?_)
          clear hcl
          refine lv_istore (lv' := [(9, .int r48), (0, .ref (D 0 0)), (1, .int p1), (2, .ref (a 0)), (3, .int p2), (5, .int y18), (8, .int (2 + r28))]) hx hb dL_isAhead_193 hl (by decide) rfl (fun ls hl => ?_)
          refine lv_iload hx hb dL_isAhead_195 (lv_at hl 0 rfl) ?_
          obtain ⟨v58, hE, hm⟩ := bnd hm
          have K : ∀ (H : Heap) (locs : List Loc) (ls : Array Slot), ST g A s H locs (wR g a na f ++ wB g D R u ts bs s49 hs ns) → lv_has ls 10 [] → W p l e rL_isAhead s m args below meth c H locs 0 0 (kEnd g below args s (some (.int o1)) (wR g a na f ++ wB g D R u ts bs o2 hs ns) A 0 0) (F0 m 271 ls [.int v58]) := by
            intro H locs ls X hl
            clear hE
            obtain ⟨hgb, hm⟩ := gd_t hm
            cases sm hm
            exact kzret (isb_n hgb) C X dL_isAhead_271
          clear hm
          have hm := hE
          clear hE
          refine lv_if_ge (tgt := 225) hx hb dL_isAhead_197 (by decide) (fun hc => ?_) (fun hc => ?_)
          · have hm := ifp hc hm
            refine lv_aload_n hx hb dL_isAhead_225 rfl (lv_at hl 3 rfl) ?_
            refine lv_iload_n hx hb dL_isAhead_226 rfl (lv_at hl 4 rfl) ?_
            refine lv_iload hx hb dL_isAhead_227 (lv_at hl 5 rfl) ?_
            refine lv_iload hx hb dL_isAhead_229 (lv_at hl 0 rfl) ?_
            obtain ⟨r59, hcl, hm⟩ := bnd hm
            refine kSp _ (List.Perm.refl _) C X (kL_fewest l g a p2 y18 r48 na f r59 hcl) (cw_L_isAhead_L_fewest_109 C) (As := [.ref (a 0), .int p2, .int y18, .int r48]) rfl hl (rest := []) rfl (Nat.le_of_ble_eq_true rfl) (st2 := [.int r59]) rfl dL_isAhead_231 ⟨Nat.le_of_ble_eq_true rfl, Nat.le_of_ble_eq_true rfl⟩ (w3 := wR g a na f ++ wB g D R u ts bs s49 hs ns) List.perm_append_comm (fun H locs X => ?_)
            clear hcl
            obtain ⟨r60, hcl, hm⟩ := bnd hm
            refine kS0c C X (kL_ones l g r59 r60 hcl) (cw_L_isAhead_L_ones_75 C) (As := [.int r59]) rfl hl (rest := []) rfl (Nat.le_of_ble_eq_true rfl) (st2 := [.int r60]) rfl dL_isAhead_234 ⟨Nat.le_of_ble_eq_true rfl, Nat.le_of_ble_eq_true rfl⟩ (fun H locs X => ?_)
            clear hcl
            refine lv_iload hx hb dL_isAhead_237 (lv_at hl 6 rfl) ?_
            refine lv_icmp_gt (tgt := 270) hx hb dL_isAhead_239 (by decide) (fun hc => ?_) (fun hc => ?_)
            · have hm := ifp hc hm
              cases hm
            · have hm := ifn hc hm
              refine lv_iload hx hb dL_isAhead_242 (lv_at hl 0 rfl) ?_
              obtain ⟨⟨⟩, hE, hm⟩ := bnd hm
              have K : ∀ (H : Heap) (locs : List Loc) (ls : Array Slot), ST g A s H locs (wR g a na f ++ wB g D R u ts bs s49 hs ns) → lv_has ls 10 [] → W p l e rL_isAhead s m args below meth c H locs 0 0 (kEnd g below args s (some (.int o1)) (wR g a na f ++ wB g D R u ts bs o2 hs ns) A 0 0) (F0 m 266 ls []) := by
                intro H locs ls X hl
                clear hE
                refine lv_iconst (v := 1) hx hb dL_isAhead_266 (by decide) ?_
                refine lv_goto (tgt := 271) hx hb dL_isAhead_267 (by decide) ?_
                cases sm hm
                exact K _ _ _ X (lv_sub hl [] rfl)
              clear hm
              have hm := hE
              clear hE
              refine lv_if_eq (tgt := 266) hx hb dL_isAhead_244 (by decide) (fun hc => ?_) (fun hc => ?_)
              · have hm := ifp hc hm
                cases sm hm
                exact K _ _ _ X (lv_sub hl [] rfl)
              · have hm := ifn hc hm
                refine lv_aload_n hx hb dL_isAhead_247 rfl (lv_at hl 3 rfl) ?_
                refine lv_iload_n hx hb dL_isAhead_248 rfl (lv_at hl 4 rfl) ?_
                refine lv_iload hx hb dL_isAhead_249 (lv_at hl 5 rfl) ?_
                refine lv_iload hx hb dL_isAhead_251 (lv_at hl 0 rfl) ?_
                refine lv_iconst (v := 1) hx hb dL_isAhead_253 (by decide) ?_
                refine lv_isub hx hb dL_isAhead_254 ?_
                obtain ⟨r63, hcl, hm⟩ := bnd hm
                refine kSp _ (List.Perm.refl _) C X (kL_fewest l g a p2 y18 (r48 - 1) na f r63 hcl) (cw_L_isAhead_L_fewest_109 C) (As := [.ref (a 0), .int p2, .int y18, .int (r48 - 1)]) rfl hl (rest := []) rfl (Nat.le_of_ble_eq_true rfl) (st2 := [.int r63]) rfl dL_isAhead_255 ⟨Nat.le_of_ble_eq_true rfl, Nat.le_of_ble_eq_true rfl⟩ (w3 := wR g a na f ++ wB g D R u ts bs s49 hs ns) List.perm_append_comm (fun H locs X => ?_)
                clear hcl
                obtain ⟨r64, hcl, hm⟩ := bnd hm
                refine kS0c C X (kL_ones l g r63 r64 hcl) (cw_L_isAhead_L_ones_75 C) (As := [.int r63]) rfl hl (rest := []) rfl (Nat.le_of_ble_eq_true rfl) (st2 := [.int r64]) rfl dL_isAhead_258 ⟨Nat.le_of_ble_eq_true rfl, Nat.le_of_ble_eq_true rfl⟩ (fun H locs X => ?_)
                clear hcl
                refine lv_iload hx hb dL_isAhead_261 (lv_at hl 6 rfl) ?_
                refine lv_icmp_le (tgt := 270) hx hb dL_isAhead_263 (by decide) (fun hc => ?_) (fun hc => ?_)
                · have hm := ifp hc hm
                  cases hm
                · have hm := ifn hc hm
                  cases sm hm
                  exact K _ _ _ X (lv_sub hl [] rfl)
          · have hm := ifn hc hm
            refine lv_aload_n hx hb dL_isAhead_200 rfl (lv_at hl 3 rfl) ?_
            refine lv_iload_n hx hb dL_isAhead_201 rfl (lv_at hl 4 rfl) ?_
            refine lv_iload hx hb dL_isAhead_202 (lv_at hl 5 rfl) ?_
            refine lv_bipush (v := 50) hx hb dL_isAhead_204 (by decide) ?_
            obtain ⟨r65, hcl, hm⟩ := bnd hm
            refine kSp _ (List.Perm.refl _) C X (kL_fewest l g a p2 y18 50 na f r65 hcl) (cw_L_isAhead_L_fewest_109 C) (As := [.ref (a 0), .int p2, .int y18, .int 50]) rfl hl (rest := []) rfl (Nat.le_of_ble_eq_true rfl) (st2 := [.int r65]) rfl dL_isAhead_206 ⟨Nat.le_of_ble_eq_true rfl, Nat.le_of_ble_eq_true rfl⟩ (w3 := wR g a na f ++ wB g D R u ts bs s49 hs ns) List.perm_append_comm (fun H locs X => ?_)
            clear hcl
            obtain ⟨r66, hcl, hm⟩ := bnd hm
            refine kS0c C X (kL_ones l g r65 r66 hcl) (cw_L_isAhead_L_ones_75 C) (As := [.int r65]) rfl hl (rest := []) rfl (Nat.le_of_ble_eq_true rfl) (st2 := [.int r66]) rfl dL_isAhead_209 ⟨Nat.le_of_ble_eq_true rfl, Nat.le_of_ble_eq_true rfl⟩ (fun H locs X => ?_)
            clear hcl
            refine lv_iload hx hb dL_isAhead_212 (lv_at hl 6 rfl) ?_
            refine lv_icmp_le (tgt := 221) hx hb dL_isAhead_214 (by decide) (fun hc => ?_) (fun hc => ?_)
            · have hm := ifp hc hm
              cases hm
            · have hm := ifn hc hm
              refine lv_iconst (v := 1) hx hb dL_isAhead_217 (by decide) ?_
              refine lv_goto (tgt := 271) hx hb dL_isAhead_218 (by decide) ?_
              cases sm hm
              exact K _ _ _ X (lv_sub hl [] rfl)
        · have hm := ifn hc hm
          cases hm
      clear hm
      have hm := hE
      clear hE
      refine lv_icmp_le (tgt := 178) hx hb dL_isAhead_171 (by decide) (fun hc => ?_) (fun hc => ?_)
      · have hm := ifp hc hm
        refine lv_iload hx hb dL_isAhead_178 (lv_at hl 6 rfl) ?_
        cases sm hm
        exact K _ _ _ X (lv_sub hl [0, 1, 2, 3, 4, 5] rfl)
      · have hm := ifn hc hm
        refine lv_iconst (v := (-1)) hx hb dL_isAhead_174 (by decide) ?_
        refine lv_goto (tgt := 180) hx hb dL_isAhead_175 (by decide) ?_
        cases sm hm
        exact K _ _ _ X (lv_sub hl [0, 1, 2, 3, 4, 5] rfl)
    · have hm := ifn hc hm
      cases hm
