abbrev rL_stroke : Room := { frames := 9, cells := 18, slots := 419, locals := 278 }
theorem cw_L_stroke {p : Program} {s : State} {m : MethodId} {args : Array Value} {meth : Method} {c : Code} {g : kG} {A : Nat → Prop} (C : CT g p s m args meth c RL cL_stroke 7 (some .int) wsL_stroke A) : CallW rL_stroke s args RL RX5 7 yX5_stroke cX5_stroke 6 (some .int) wsX5_stroke rX5_stroke 18 419 4 := cwV 4 C.2.2.2.2.2.1 gL_stroke_X5_stroke rfl rfl rfl (by decide +kernel) ⟨Nat.le_of_ble_eq_true rfl, Nat.le_of_ble_eq_true rfl⟩
theorem lk_L_stroke_0 : (Cond.classLink RL 13 (kEx 1)) ∈ wsL_stroke := by decide +kernel
theorem lk_L_stroke_1 : (Cond.classLink RL 15 (kEx 2)) ∈ wsL_stroke := by decide +kernel
set_option maxRecDepth 100000 in
set_option maxHeartbeats 4000000 in
theorem kLt_stroke_0 {S : Type} (l : Launch) (g : kG) (b o : Nat) (p1 : Int32) (p2 : Int32) (p3 : Int32) (p4 : Int32) (fs : List Value) (wc : va_W) (he : wc[0]? = some (b, .inr (5, fs))) (f : Nat → Int64) (w2 : S → va_W) (hM : KX l yX5_stroke wsX5_stroke rX5_stroke g [.ref b, .int p1, .int p2, .int p3, .int p4] wc (.inl (1, w2)) 18 419) : KE (S := S) l yL_stroke wsL_stroke rL_stroke g [.ref b, .int p1, .int p2, .int p3, .int p4, .ref o] (wOut g o f ++ wc) (some (.int 1)) (fun s => wOut g o f ++ w2 s) 18 419 := by
  refine KE.ofH (nL := 7) (by decide) rfl (Nat.le_of_ble_eq_true rfl) ?_
  intro p e s m args below meth c A ls C htab X hl
  have C : CT g p s m args meth c RL cL_stroke 7 (some .int) wsL_stroke A := C
  have hx := C.1
  have hb := C.2.1
  have hl : lv_has ls 7 [(0, .ref b), (1, .int p1), (2, .int p2), (3, .int p3), (4, .int p4), (5, .ref o)] := hl
  refine lv_aload hx hb dL_stroke_0 (lv_at hl 5 rfl) ?_
  refine lv_iconst (v := 0) hx hb dL_stroke_2 (by decide) ?_
  refine lv_aload_n hx hb dL_stroke_3 rfl (lv_at hl 0 rfl) ?_
  refine lv_iload_n hx hb dL_stroke_4 rfl (lv_at hl 1 rfl) ?_
  refine lv_iload_n hx hb dL_stroke_5 rfl (lv_at hl 2 rfl) ?_
  refine lv_iload_n hx hb dL_stroke_6 rfl (lv_at hl 3 rfl) ?_
  refine lv_iload hx hb dL_stroke_7 (lv_at hl 4 rfl) ?_
  refine kxVc (wOut g o f) (List.perm_append_comm) C X hM (cw_L_stroke C) 0 (ci := 5) he rfl (As := [.int p1, .int p2, .int p3, .int p4]) rfl hl (rest := [.int 0, .ref o]) rfl (Nat.le_of_ble_eq_true rfl) dL_stroke_9 ⟨Nat.le_of_ble_eq_true rfl, Nat.le_of_ble_eq_true rfl⟩ [] ⟨0, 14, 17, 13⟩ [⟨0, 14, 21, 15⟩] (by rw [htab]; rfl) (fun z hz => absurd hz List.not_mem_nil) (by decide) (by decide) lk_L_stroke_0 (by decide) (fun t q H locs X => ?_)
  refine lv_astore (lv' := [(6, .ref q), (0, .ref b), (1, .int p1), (2, .int p2), (3, .int p3), (4, .int p4), (5, .ref o)]) hx hb dL_stroke_17 hl (by decide) rfl (fun ls hl => ?_)
  refine lv_iconst (v := 1) hx hb dL_stroke_19 (by decide) ?_
  exact keiret t C X dL_stroke_20
set_option maxRecDepth 100000 in
set_option maxHeartbeats 4000000 in
theorem kLt_stroke_1 {S : Type} (l : Launch) (g : kG) (b o : Nat) (p1 : Int32) (p2 : Int32) (p3 : Int32) (p4 : Int32) (fs : List Value) (wc : va_W) (he : wc[0]? = some (b, .inr (5, fs))) (f : Nat → Int64) (w2 : S → va_W) (hM : KX l yX5_stroke wsX5_stroke rX5_stroke g [.ref b, .int p1, .int p2, .int p3, .int p4] wc (.inl (2, w2)) 18 419) : KE (S := S) l yL_stroke wsL_stroke rL_stroke g [.ref b, .int p1, .int p2, .int p3, .int p4, .ref o] (wOut g o f ++ wc) (some (.int 2)) (fun s => wOut g o f ++ w2 s) 18 419 := by
  refine KE.ofH (nL := 7) (by decide) rfl (Nat.le_of_ble_eq_true rfl) ?_
  intro p e s m args below meth c A ls C htab X hl
  have C : CT g p s m args meth c RL cL_stroke 7 (some .int) wsL_stroke A := C
  have hx := C.1
  have hb := C.2.1
  have hl : lv_has ls 7 [(0, .ref b), (1, .int p1), (2, .int p2), (3, .int p3), (4, .int p4), (5, .ref o)] := hl
  refine lv_aload hx hb dL_stroke_0 (lv_at hl 5 rfl) ?_
  refine lv_iconst (v := 0) hx hb dL_stroke_2 (by decide) ?_
  refine lv_aload_n hx hb dL_stroke_3 rfl (lv_at hl 0 rfl) ?_
  refine lv_iload_n hx hb dL_stroke_4 rfl (lv_at hl 1 rfl) ?_
  refine lv_iload_n hx hb dL_stroke_5 rfl (lv_at hl 2 rfl) ?_
  refine lv_iload_n hx hb dL_stroke_6 rfl (lv_at hl 3 rfl) ?_
  refine lv_iload hx hb dL_stroke_7 (lv_at hl 4 rfl) ?_
  refine kxVc (wOut g o f) (List.perm_append_comm) C X hM (cw_L_stroke C) 0 (ci := 5) he rfl (As := [.int p1, .int p2, .int p3, .int p4]) rfl hl (rest := [.int 0, .ref o]) rfl (Nat.le_of_ble_eq_true rfl) dL_stroke_9 ⟨Nat.le_of_ble_eq_true rfl, Nat.le_of_ble_eq_true rfl⟩ [⟨0, 14, 17, 13⟩] ⟨0, 14, 21, 15⟩ [] (by rw [htab]; rfl) (List.forall_mem_cons.mpr ⟨⟨by decide, kEx 1, lk_L_stroke_0, by decide⟩, List.forall_mem_nil _⟩) (by decide) (by decide) lk_L_stroke_1 (by decide) (fun t q H locs X => ?_)
  refine lv_astore (lv' := [(6, .ref q), (0, .ref b), (1, .int p1), (2, .int p2), (3, .int p3), (4, .int p4), (5, .ref o)]) hx hb dL_stroke_21 hl (by decide) rfl (fun ls hl => ?_)
  refine lv_iconst (v := 2) hx hb dL_stroke_23 (by decide) ?_
  exact keiret t C X dL_stroke_24
set_option maxRecDepth 100000 in
set_option maxHeartbeats 4000000 in
theorem kLr_stroke {S : Type} (l : Launch) (g : kG) (b o : Nat) (p1 : Int32) (p2 : Int32) (p3 : Int32) (p4 : Int32) (fs : List Value) (wc : va_W) (he : wc[0]? = some (b, .inr (5, fs))) (f : Nat → Int64) (v : Int32) (w2 : S → va_W) (hM : KX l yX5_stroke wsX5_stroke rX5_stroke g [.ref b, .int p1, .int p2, .int p3, .int p4] wc (.inr (some (.int v), w2)) 18 419) : KE (S := S) l yL_stroke wsL_stroke rL_stroke g [.ref b, .int p1, .int p2, .int p3, .int p4, .ref o] (wOut g o f ++ wc) (some (.int 0)) (fun s => wOut g o (vp_updL f 0 v.toInt64) ++ w2 s) 18 419 := by
  refine KE.ofH (nL := 7) (by decide) rfl (Nat.le_of_ble_eq_true rfl) ?_
  intro p e s m args below meth c A ls C htab X hl
  have C : CT g p s m args meth c RL cL_stroke 7 (some .int) wsL_stroke A := C
  have hx := C.1
  have hb := C.2.1
  have hl : lv_has ls 7 [(0, .ref b), (1, .int p1), (2, .int p2), (3, .int p3), (4, .int p4), (5, .ref o)] := hl
  refine lv_aload hx hb dL_stroke_0 (lv_at hl 5 rfl) ?_
  refine lv_iconst (v := 0) hx hb dL_stroke_2 (by decide) ?_
  refine lv_aload_n hx hb dL_stroke_3 rfl (lv_at hl 0 rfl) ?_
  refine lv_iload_n hx hb dL_stroke_4 rfl (lv_at hl 1 rfl) ?_
  refine lv_iload_n hx hb dL_stroke_5 rfl (lv_at hl 2 rfl) ?_
  refine lv_iload_n hx hb dL_stroke_6 rfl (lv_at hl 3 rfl) ?_
  refine lv_iload hx hb dL_stroke_7 (lv_at hl 4 rfl) ?_
  refine kxV (wOut g o f) (List.perm_append_comm) C X hM (cw_L_stroke C) 0 (ci := 5) he rfl (As := [.int p1, .int p2, .int p3, .int p4]) rfl hl (rest := [.int 0, .ref o]) rfl (Nat.le_of_ble_eq_true rfl) (st2 := [.int v, .int 0, .ref o]) rfl dL_stroke_9 ⟨Nat.le_of_ble_eq_true rfl, Nat.le_of_ble_eq_true rfl⟩ (w3 := fun s => wOut g o f ++ w2 s) (fun _ => List.Perm.refl _) (fun t H locs X => ?_)
  refine lv_i2l (v := v.toInt64) hx hb dL_stroke_12 rfl ?_
  refine klast C X 0 rfl (i := 0) (by decide) (w2 := wOut g o (vp_updL f 0 v.toInt64) ++ w2 t) rfl dL_stroke_13 (fun H locs X => ?_)
  refine lv_goto (tgt := 25) hx hb dL_stroke_14 (by decide) ?_
  refine lv_iconst (v := 0) hx hb dL_stroke_25 (by decide) ?_
  exact keiret (w2 := fun s => wOut g o (vp_updL f 0 v.toInt64) ++ w2 s) t C X dL_stroke_26
abbrev rL_draw : Room := { frames := 8, cells := 14, slots := 395, locals := 273 }
theorem cw_L_draw {p : Program} {s : State} {m : MethodId} {args : Array Value} {meth : Method} {c : Code} {g : kG} {A : Nat → Prop} (C : CT g p s m args meth c RL cL_draw 3 (some .int) wsL_draw A) : CallW rL_draw s args RL RX5 17 yX5_draw cX5_draw 1 (some .int) wsX5_draw rX5_draw 14 395 0 := cwV 0 C.2.2.2.2.2.1 gL_draw_X5_draw rfl rfl rfl (by decide +kernel) ⟨Nat.le_of_ble_eq_true rfl, Nat.le_of_ble_eq_true rfl⟩
theorem lk_L_draw_0 : (Cond.classLink RL 13 (kEx 1)) ∈ wsL_draw := by decide +kernel
theorem lk_L_draw_1 : (Cond.classLink RL 15 (kEx 2)) ∈ wsL_draw := by decide +kernel
set_option maxRecDepth 100000 in
set_option maxHeartbeats 4000000 in
theorem kLt_draw_0 {S : Type} (l : Launch) (g : kG) (b o : Nat) (fs : List Value) (wc : va_W) (he : wc[0]? = some (b, .inr (5, fs))) (f : Nat → Int64) (w2 : S → va_W) (hM : KX l yX5_draw wsX5_draw rX5_draw g [.ref b] wc (.inl (1, w2)) 14 395) : KE (S := S) l yL_draw wsL_draw rL_draw g [.ref b, .ref o] (wOut g o f ++ wc) (some (.int 1)) (fun s => wOut g o f ++ w2 s) 14 395 := by
  refine KE.ofH (nL := 3) (by decide) rfl (Nat.le_of_ble_eq_true rfl) ?_
  intro p e s m args below meth c A ls C htab X hl
  have C : CT g p s m args meth c RL cL_draw 3 (some .int) wsL_draw A := C
  have hx := C.1
  have hb := C.2.1
  have hl : lv_has ls 3 [(0, .ref b), (1, .ref o)] := hl
  refine lv_aload_n hx hb dL_draw_0 rfl (lv_at hl 1 rfl) ?_
  refine lv_iconst (v := 0) hx hb dL_draw_1 (by decide) ?_
  refine lv_aload_n hx hb dL_draw_2 rfl (lv_at hl 0 rfl) ?_
  refine kxVc (wOut g o f) (List.perm_append_comm) C X hM (cw_L_draw C) 0 (ci := 5) he rfl (As := []) rfl hl (rest := [.int 0, .ref o]) rfl (Nat.le_of_ble_eq_true rfl) dL_draw_3 ⟨Nat.le_of_ble_eq_true rfl, Nat.le_of_ble_eq_true rfl⟩ [] ⟨0, 8, 11, 13⟩ [⟨0, 8, 14, 15⟩] (by rw [htab]; rfl) (fun z hz => absurd hz List.not_mem_nil) (by decide) (by decide) lk_L_draw_0 (by decide) (fun t q H locs X => ?_)
  refine lv_astore_n (lv' := [(2, .ref q), (0, .ref b), (1, .ref o)]) hx hb dL_draw_11 rfl hl (by decide) rfl (fun ls hl => ?_)
  refine lv_iconst (v := 1) hx hb dL_draw_12 (by decide) ?_
  exact keiret t C X dL_draw_13
set_option maxRecDepth 100000 in
set_option maxHeartbeats 4000000 in
theorem kLt_draw_1 {S : Type} (l : Launch) (g : kG) (b o : Nat) (fs : List Value) (wc : va_W) (he : wc[0]? = some (b, .inr (5, fs))) (f : Nat → Int64) (w2 : S → va_W) (hM : KX l yX5_draw wsX5_draw rX5_draw g [.ref b] wc (.inl (2, w2)) 14 395) : KE (S := S) l yL_draw wsL_draw rL_draw g [.ref b, .ref o] (wOut g o f ++ wc) (some (.int 2)) (fun s => wOut g o f ++ w2 s) 14 395 := by
  refine KE.ofH (nL := 3) (by decide) rfl (Nat.le_of_ble_eq_true rfl) ?_
  intro p e s m args below meth c A ls C htab X hl
  have C : CT g p s m args meth c RL cL_draw 3 (some .int) wsL_draw A := C
  have hx := C.1
  have hb := C.2.1
  have hl : lv_has ls 3 [(0, .ref b), (1, .ref o)] := hl
  refine lv_aload_n hx hb dL_draw_0 rfl (lv_at hl 1 rfl) ?_
  refine lv_iconst (v := 0) hx hb dL_draw_1 (by decide) ?_
  refine lv_aload_n hx hb dL_draw_2 rfl (lv_at hl 0 rfl) ?_
  refine kxVc (wOut g o f) (List.perm_append_comm) C X hM (cw_L_draw C) 0 (ci := 5) he rfl (As := []) rfl hl (rest := [.int 0, .ref o]) rfl (Nat.le_of_ble_eq_true rfl) dL_draw_3 ⟨Nat.le_of_ble_eq_true rfl, Nat.le_of_ble_eq_true rfl⟩ [⟨0, 8, 11, 13⟩] ⟨0, 8, 14, 15⟩ [] (by rw [htab]; rfl) (List.forall_mem_cons.mpr ⟨⟨by decide, kEx 1, lk_L_draw_0, by decide⟩, List.forall_mem_nil _⟩) (by decide) (by decide) lk_L_draw_1 (by decide) (fun t q H locs X => ?_)
  refine lv_astore_n (lv' := [(2, .ref q), (0, .ref b), (1, .ref o)]) hx hb dL_draw_14 rfl hl (by decide) rfl (fun ls hl => ?_)
  refine lv_iconst (v := 2) hx hb dL_draw_15 (by decide) ?_
  exact keiret t C X dL_draw_16
set_option maxRecDepth 100000 in
set_option maxHeartbeats 4000000 in
theorem kLr_draw {S : Type} (l : Launch) (g : kG) (b o : Nat) (fs : List Value) (wc : va_W) (he : wc[0]? = some (b, .inr (5, fs))) (f : Nat → Int64) (v : Int32) (w2 : S → va_W) (hM : KX l yX5_draw wsX5_draw rX5_draw g [.ref b] wc (.inr (some (.int v), w2)) 14 395) : KE (S := S) l yL_draw wsL_draw rL_draw g [.ref b, .ref o] (wOut g o f ++ wc) (some (.int 0)) (fun s => wOut g o (vp_updL f 0 v.toInt64) ++ w2 s) 14 395 := by
  refine KE.ofH (nL := 3) (by decide) rfl (Nat.le_of_ble_eq_true rfl) ?_
  intro p e s m args below meth c A ls C htab X hl
  have C : CT g p s m args meth c RL cL_draw 3 (some .int) wsL_draw A := C
  have hx := C.1
  have hb := C.2.1
  have hl : lv_has ls 3 [(0, .ref b), (1, .ref o)] := hl
  refine lv_aload_n hx hb dL_draw_0 rfl (lv_at hl 1 rfl) ?_
  refine lv_iconst (v := 0) hx hb dL_draw_1 (by decide) ?_
  refine lv_aload_n hx hb dL_draw_2 rfl (lv_at hl 0 rfl) ?_
  refine kxV (wOut g o f) (List.perm_append_comm) C X hM (cw_L_draw C) 0 (ci := 5) he rfl (As := []) rfl hl (rest := [.int 0, .ref o]) rfl (Nat.le_of_ble_eq_true rfl) (st2 := [.int v, .int 0, .ref o]) rfl dL_draw_3 ⟨Nat.le_of_ble_eq_true rfl, Nat.le_of_ble_eq_true rfl⟩ (w3 := fun s => wOut g o f ++ w2 s) (fun _ => List.Perm.refl _) (fun t H locs X => ?_)
  refine lv_i2l (v := v.toInt64) hx hb dL_draw_6 rfl ?_
  refine klast C X 0 rfl (i := 0) (by decide) (w2 := wOut g o (vp_updL f 0 v.toInt64) ++ w2 t) rfl dL_draw_7 (fun H locs X => ?_)
  refine lv_goto (tgt := 17) hx hb dL_draw_8 (by decide) ?_
  refine lv_iconst (v := 0) hx hb dL_draw_17 (by decide) ?_
  exact keiret (w2 := fun s => wOut g o (vp_updL f 0 v.toInt64) ++ w2 s) t C X dL_draw_18
abbrev rL_insert : Room := { frames := 9, cells := 17, slots := 413, locals := 279 }
theorem cw_L_insert {p : Program} {s : State} {m : MethodId} {args : Array Value} {meth : Method} {c : Code} {g : kG} {A : Nat → Prop} (C : CT g p s m args meth c RL cL_insert 8 (some .int) wsL_insert A) : CallW rL_insert s args RL RX5 21 yX5_insert cX5_insert 7 (some .int) wsX5_insert rX5_insert 17 413 5 := cwV 5 C.2.2.2.2.2.1 gL_insert_X5_insert rfl rfl rfl (by decide +kernel) ⟨Nat.le_of_ble_eq_true rfl, Nat.le_of_ble_eq_true rfl⟩
theorem lk_L_insert_0 : (Cond.classLink RL 25 (kEx 0)) ∈ wsL_insert := by decide +kernel
theorem lk_L_insert_1 : (Cond.classLink RL 13 (kEx 1)) ∈ wsL_insert := by decide +kernel
theorem lk_L_insert_2 : (Cond.classLink RL 15 (kEx 2)) ∈ wsL_insert := by decide +kernel
set_option maxRecDepth 100000 in
set_option maxHeartbeats 4000000 in
theorem kLt_insert_0 {S : Type} (l : Launch) (g : kG) (b o : Nat) (p1 : Int32) (p2 : Int32) (p3 : Int32) (p4 : Int32) (p5 : Int32) (fs : List Value) (wc : va_W) (he : wc[0]? = some (b, .inr (5, fs))) (f : Nat → Int64) (w2 : S → va_W) (hM : KX l yX5_insert wsX5_insert rX5_insert g [.ref b, .int p1, .int p2, .int p3, .int p4, .int p5] wc (.inl (0, w2)) 17 413) : KE (S := S) l yL_insert wsL_insert rL_insert g [.ref b, .int p1, .int p2, .int p3, .int p4, .int p5, .ref o] (wOut g o f ++ wc) (some (.int 1)) (fun s => wOut g o f ++ w2 s) 17 413 := by
  refine KE.ofH (nL := 8) (by decide) rfl (Nat.le_of_ble_eq_true rfl) ?_
  intro p e s m args below meth c A ls C htab X hl
  have C : CT g p s m args meth c RL cL_insert 8 (some .int) wsL_insert A := C
  have hx := C.1
  have hb := C.2.1
  have hl : lv_has ls 8 [(0, .ref b), (1, .int p1), (2, .int p2), (3, .int p3), (4, .int p4), (5, .int p5), (6, .ref o)] := hl
  refine lv_aload hx hb dL_insert_0 (lv_at hl 6 rfl) ?_
  refine lv_iconst (v := 0) hx hb dL_insert_2 (by decide) ?_
  refine lv_aload_n hx hb dL_insert_3 rfl (lv_at hl 0 rfl) ?_
  refine lv_iload_n hx hb dL_insert_4 rfl (lv_at hl 1 rfl) ?_
  refine lv_iload_n hx hb dL_insert_5 rfl (lv_at hl 2 rfl) ?_
  refine lv_iload_n hx hb dL_insert_6 rfl (lv_at hl 3 rfl) ?_
  refine lv_iload hx hb dL_insert_7 (lv_at hl 4 rfl) ?_
  refine lv_iload hx hb dL_insert_9 (lv_at hl 5 rfl) ?_
  refine kxVc (wOut g o f) (List.perm_append_comm) C X hM (cw_L_insert C) 0 (ci := 5) he rfl (As := [.int p1, .int p2, .int p3, .int p4, .int p5]) rfl hl (rest := [.int 0, .ref o]) rfl (Nat.le_of_ble_eq_true rfl) dL_insert_11 ⟨Nat.le_of_ble_eq_true rfl, Nat.le_of_ble_eq_true rfl⟩ [] ⟨0, 16, 19, 25⟩ [⟨0, 16, 23, 13⟩, ⟨0, 16, 27, 15⟩] (by rw [htab]; rfl) (fun z hz => absurd hz List.not_mem_nil) (by decide) (by decide) lk_L_insert_0 (by decide) (fun t q H locs X => ?_)
  refine lv_astore (lv' := [(7, .ref q), (0, .ref b), (1, .int p1), (2, .int p2), (3, .int p3), (4, .int p4), (5, .int p5), (6, .ref o)]) hx hb dL_insert_19 hl (by decide) rfl (fun ls hl => ?_)
  refine lv_iconst (v := 1) hx hb dL_insert_21 (by decide) ?_
  exact keiret t C X dL_insert_22
set_option maxRecDepth 100000 in
set_option maxHeartbeats 4000000 in
theorem kLt_insert_1 {S : Type} (l : Launch) (g : kG) (b o : Nat) (p1 : Int32) (p2 : Int32) (p3 : Int32) (p4 : Int32) (p5 : Int32) (fs : List Value) (wc : va_W) (he : wc[0]? = some (b, .inr (5, fs))) (f : Nat → Int64) (w2 : S → va_W) (hM : KX l yX5_insert wsX5_insert rX5_insert g [.ref b, .int p1, .int p2, .int p3, .int p4, .int p5] wc (.inl (1, w2)) 17 413) : KE (S := S) l yL_insert wsL_insert rL_insert g [.ref b, .int p1, .int p2, .int p3, .int p4, .int p5, .ref o] (wOut g o f ++ wc) (some (.int 2)) (fun s => wOut g o f ++ w2 s) 17 413 := by
  refine KE.ofH (nL := 8) (by decide) rfl (Nat.le_of_ble_eq_true rfl) ?_
  intro p e s m args below meth c A ls C htab X hl
  have C : CT g p s m args meth c RL cL_insert 8 (some .int) wsL_insert A := C
  have hx := C.1
  have hb := C.2.1
  have hl : lv_has ls 8 [(0, .ref b), (1, .int p1), (2, .int p2), (3, .int p3), (4, .int p4), (5, .int p5), (6, .ref o)] := hl
  refine lv_aload hx hb dL_insert_0 (lv_at hl 6 rfl) ?_
  refine lv_iconst (v := 0) hx hb dL_insert_2 (by decide) ?_
  refine lv_aload_n hx hb dL_insert_3 rfl (lv_at hl 0 rfl) ?_
  refine lv_iload_n hx hb dL_insert_4 rfl (lv_at hl 1 rfl) ?_
  refine lv_iload_n hx hb dL_insert_5 rfl (lv_at hl 2 rfl) ?_
  refine lv_iload_n hx hb dL_insert_6 rfl (lv_at hl 3 rfl) ?_
  refine lv_iload hx hb dL_insert_7 (lv_at hl 4 rfl) ?_
  refine lv_iload hx hb dL_insert_9 (lv_at hl 5 rfl) ?_
  refine kxVc (wOut g o f) (List.perm_append_comm) C X hM (cw_L_insert C) 0 (ci := 5) he rfl (As := [.int p1, .int p2, .int p3, .int p4, .int p5]) rfl hl (rest := [.int 0, .ref o]) rfl (Nat.le_of_ble_eq_true rfl) dL_insert_11 ⟨Nat.le_of_ble_eq_true rfl, Nat.le_of_ble_eq_true rfl⟩ [⟨0, 16, 19, 25⟩] ⟨0, 16, 23, 13⟩ [⟨0, 16, 27, 15⟩] (by rw [htab]; rfl) (List.forall_mem_cons.mpr ⟨⟨by decide, kEx 0, lk_L_insert_0, by decide⟩, List.forall_mem_nil _⟩) (by decide) (by decide) lk_L_insert_1 (by decide) (fun t q H locs X => ?_)
  refine lv_astore (lv' := [(7, .ref q), (0, .ref b), (1, .int p1), (2, .int p2), (3, .int p3), (4, .int p4), (5, .int p5), (6, .ref o)]) hx hb dL_insert_23 hl (by decide) rfl (fun ls hl => ?_)
  refine lv_iconst (v := 2) hx hb dL_insert_25 (by decide) ?_
  exact keiret t C X dL_insert_26
set_option maxRecDepth 100000 in
set_option maxHeartbeats 4000000 in
theorem kLt_insert_2 {S : Type} (l : Launch) (g : kG) (b o : Nat) (p1 : Int32) (p2 : Int32) (p3 : Int32) (p4 : Int32) (p5 : Int32) (fs : List Value) (wc : va_W) (he : wc[0]? = some (b, .inr (5, fs))) (f : Nat → Int64) (w2 : S → va_W) (hM : KX l yX5_insert wsX5_insert rX5_insert g [.ref b, .int p1, .int p2, .int p3, .int p4, .int p5] wc (.inl (2, w2)) 17 413) : KE (S := S) l yL_insert wsL_insert rL_insert g [.ref b, .int p1, .int p2, .int p3, .int p4, .int p5, .ref o] (wOut g o f ++ wc) (some (.int 3)) (fun s => wOut g o f ++ w2 s) 17 413 := by
  refine KE.ofH (nL := 8) (by decide) rfl (Nat.le_of_ble_eq_true rfl) ?_
  intro p e s m args below meth c A ls C htab X hl
  have C : CT g p s m args meth c RL cL_insert 8 (some .int) wsL_insert A := C
  have hx := C.1
  have hb := C.2.1
  have hl : lv_has ls 8 [(0, .ref b), (1, .int p1), (2, .int p2), (3, .int p3), (4, .int p4), (5, .int p5), (6, .ref o)] := hl
  refine lv_aload hx hb dL_insert_0 (lv_at hl 6 rfl) ?_
  refine lv_iconst (v := 0) hx hb dL_insert_2 (by decide) ?_
  refine lv_aload_n hx hb dL_insert_3 rfl (lv_at hl 0 rfl) ?_
  refine lv_iload_n hx hb dL_insert_4 rfl (lv_at hl 1 rfl) ?_
  refine lv_iload_n hx hb dL_insert_5 rfl (lv_at hl 2 rfl) ?_
  refine lv_iload_n hx hb dL_insert_6 rfl (lv_at hl 3 rfl) ?_
  refine lv_iload hx hb dL_insert_7 (lv_at hl 4 rfl) ?_
  refine lv_iload hx hb dL_insert_9 (lv_at hl 5 rfl) ?_
  refine kxVc (wOut g o f) (List.perm_append_comm) C X hM (cw_L_insert C) 0 (ci := 5) he rfl (As := [.int p1, .int p2, .int p3, .int p4, .int p5]) rfl hl (rest := [.int 0, .ref o]) rfl (Nat.le_of_ble_eq_true rfl) dL_insert_11 ⟨Nat.le_of_ble_eq_true rfl, Nat.le_of_ble_eq_true rfl⟩ [⟨0, 16, 19, 25⟩, ⟨0, 16, 23, 13⟩] ⟨0, 16, 27, 15⟩ [] (by rw [htab]; rfl) (List.forall_mem_cons.mpr ⟨⟨by decide, kEx 0, lk_L_insert_0, by decide⟩, List.forall_mem_cons.mpr ⟨⟨by decide, kEx 1, lk_L_insert_1, by decide⟩, List.forall_mem_nil _⟩⟩) (by decide) (by decide) lk_L_insert_2 (by decide) (fun t q H locs X => ?_)
  refine lv_astore (lv' := [(7, .ref q), (0, .ref b), (1, .int p1), (2, .int p2), (3, .int p3), (4, .int p4), (5, .int p5), (6, .ref o)]) hx hb dL_insert_27 hl (by decide) rfl (fun ls hl => ?_)
  refine lv_iconst (v := 3) hx hb dL_insert_29 (by decide) ?_
  exact keiret t C X dL_insert_30
set_option maxRecDepth 100000 in
set_option maxHeartbeats 4000000 in
theorem kLr_insert {S : Type} (l : Launch) (g : kG) (b o : Nat) (p1 : Int32) (p2 : Int32) (p3 : Int32) (p4 : Int32) (p5 : Int32) (fs : List Value) (wc : va_W) (he : wc[0]? = some (b, .inr (5, fs))) (f : Nat → Int64) (v : Int32) (w2 : S → va_W) (hM : KX l yX5_insert wsX5_insert rX5_insert g [.ref b, .int p1, .int p2, .int p3, .int p4, .int p5] wc (.inr (some (.int v), w2)) 17 413) : KE (S := S) l yL_insert wsL_insert rL_insert g [.ref b, .int p1, .int p2, .int p3, .int p4, .int p5, .ref o] (wOut g o f ++ wc) (some (.int 0)) (fun s => wOut g o (vp_updL f 0 v.toInt64) ++ w2 s) 17 413 := by
  refine KE.ofH (nL := 8) (by decide) rfl (Nat.le_of_ble_eq_true rfl) ?_
  intro p e s m args below meth c A ls C htab X hl
  have C : CT g p s m args meth c RL cL_insert 8 (some .int) wsL_insert A := C
  have hx := C.1
  have hb := C.2.1
  have hl : lv_has ls 8 [(0, .ref b), (1, .int p1), (2, .int p2), (3, .int p3), (4, .int p4), (5, .int p5), (6, .ref o)] := hl
  refine lv_aload hx hb dL_insert_0 (lv_at hl 6 rfl) ?_
  refine lv_iconst (v := 0) hx hb dL_insert_2 (by decide) ?_
  refine lv_aload_n hx hb dL_insert_3 rfl (lv_at hl 0 rfl) ?_
  refine lv_iload_n hx hb dL_insert_4 rfl (lv_at hl 1 rfl) ?_
  refine lv_iload_n hx hb dL_insert_5 rfl (lv_at hl 2 rfl) ?_
  refine lv_iload_n hx hb dL_insert_6 rfl (lv_at hl 3 rfl) ?_
  refine lv_iload hx hb dL_insert_7 (lv_at hl 4 rfl) ?_
  refine lv_iload hx hb dL_insert_9 (lv_at hl 5 rfl) ?_
  refine kxV (wOut g o f) (List.perm_append_comm) C X hM (cw_L_insert C) 0 (ci := 5) he rfl (As := [.int p1, .int p2, .int p3, .int p4, .int p5]) rfl hl (rest := [.int 0, .ref o]) rfl (Nat.le_of_ble_eq_true rfl) (st2 := [.int v, .int 0, .ref o]) rfl dL_insert_11 ⟨Nat.le_of_ble_eq_true rfl, Nat.le_of_ble_eq_true rfl⟩ (w3 := fun s => wOut g o f ++ w2 s) (fun _ => List.Perm.refl _) (fun t H locs X => ?_)
  refine lv_i2l (v := v.toInt64) hx hb dL_insert_14 rfl ?_
  refine klast C X 0 rfl (i := 0) (by decide) (w2 := wOut g o (vp_updL f 0 v.toInt64) ++ w2 t) rfl dL_insert_15 (fun H locs X => ?_)
  refine lv_goto (tgt := 31) hx hb dL_insert_16 (by decide) ?_
  refine lv_iconst (v := 0) hx hb dL_insert_31 (by decide) ?_
  exact keiret (w2 := fun s => wOut g o (vp_updL f 0 v.toInt64) ++ w2 s) t C X dL_insert_32
abbrev rL_change : Room := { frames := 9, cells := 18, slots := 419, locals := 280 }
theorem cw_L_change {p : Program} {s : State} {m : MethodId} {args : Array Value} {meth : Method} {c : Code} {g : kG} {A : Nat → Prop} (C : CT g p s m args meth c RL cL_change 8 (some .int) wsL_change A) : CallW rL_change s args RL RX5 27 yX5_change cX5_change 8 (some .int) wsX5_change rX5_change 18 419 5 := cwV 5 C.2.2.2.2.2.1 gL_change_X5_change rfl rfl rfl (by decide +kernel) ⟨Nat.le_of_ble_eq_true rfl, Nat.le_of_ble_eq_true rfl⟩
theorem lk_L_change_0 : (Cond.classLink RL 25 (kEx 0)) ∈ wsL_change := by decide +kernel
theorem lk_L_change_1 : (Cond.classLink RL 13 (kEx 1)) ∈ wsL_change := by decide +kernel
set_option maxRecDepth 100000 in
set_option maxHeartbeats 4000000 in
theorem kLt_change_0 {S : Type} (l : Launch) (g : kG) (b o : Nat) (p1 : Int32) (p2 : Int32) (p3 : Int32) (p4 : Int32) (p5 : Int32) (fs : List Value) (wc : va_W) (he : wc[0]? = some (b, .inr (5, fs))) (f : Nat → Int64) (w2 : S → va_W) (hM : KX l yX5_change wsX5_change rX5_change g [.ref b, .int p1, .int p2, .int p3, .int p4, .int p5] wc (.inl (0, w2)) 18 419) : KE (S := S) l yL_change wsL_change rL_change g [.ref b, .int p1, .int p2, .int p3, .int p4, .int p5, .ref o] (wOut g o f ++ wc) (some (.int 1)) (fun s => wOut g o f ++ w2 s) 18 419 := by
  refine KE.ofH (nL := 8) (by decide) rfl (Nat.le_of_ble_eq_true rfl) ?_
  intro p e s m args below meth c A ls C htab X hl
  have C : CT g p s m args meth c RL cL_change 8 (some .int) wsL_change A := C
  have hx := C.1
  have hb := C.2.1
  have hl : lv_has ls 8 [(0, .ref b), (1, .int p1), (2, .int p2), (3, .int p3), (4, .int p4), (5, .int p5), (6, .ref o)] := hl
  refine lv_aload hx hb dL_change_0 (lv_at hl 6 rfl) ?_
  refine lv_iconst (v := 0) hx hb dL_change_2 (by decide) ?_
  refine lv_aload_n hx hb dL_change_3 rfl (lv_at hl 0 rfl) ?_
  refine lv_iload_n hx hb dL_change_4 rfl (lv_at hl 1 rfl) ?_
  refine lv_iload_n hx hb dL_change_5 rfl (lv_at hl 2 rfl) ?_
  refine lv_iload_n hx hb dL_change_6 rfl (lv_at hl 3 rfl) ?_
  refine lv_iload hx hb dL_change_7 (lv_at hl 4 rfl) ?_
  refine lv_iload hx hb dL_change_9 (lv_at hl 5 rfl) ?_
  refine kxVc (wOut g o f) (List.perm_append_comm) C X hM (cw_L_change C) 0 (ci := 5) he rfl (As := [.int p1, .int p2, .int p3, .int p4, .int p5]) rfl hl (rest := [.int 0, .ref o]) rfl (Nat.le_of_ble_eq_true rfl) dL_change_11 ⟨Nat.le_of_ble_eq_true rfl, Nat.le_of_ble_eq_true rfl⟩ [] ⟨0, 16, 19, 25⟩ [⟨0, 16, 23, 13⟩] (by rw [htab]; rfl) (fun z hz => absurd hz List.not_mem_nil) (by decide) (by decide) lk_L_change_0 (by decide) (fun t q H locs X => ?_)
  refine lv_astore (lv' := [(7, .ref q), (0, .ref b), (1, .int p1), (2, .int p2), (3, .int p3), (4, .int p4), (5, .int p5), (6, .ref o)]) hx hb dL_change_19 hl (by decide) rfl (fun ls hl => ?_)
  refine lv_iconst (v := 1) hx hb dL_change_21 (by decide) ?_
  exact keiret t C X dL_change_22
set_option maxRecDepth 100000 in
set_option maxHeartbeats 4000000 in
theorem kLt_change_1 {S : Type} (l : Launch) (g : kG) (b o : Nat) (p1 : Int32) (p2 : Int32) (p3 : Int32) (p4 : Int32) (p5 : Int32) (fs : List Value) (wc : va_W) (he : wc[0]? = some (b, .inr (5, fs))) (f : Nat → Int64) (w2 : S → va_W) (hM : KX l yX5_change wsX5_change rX5_change g [.ref b, .int p1, .int p2, .int p3, .int p4, .int p5] wc (.inl (1, w2)) 18 419) : KE (S := S) l yL_change wsL_change rL_change g [.ref b, .int p1, .int p2, .int p3, .int p4, .int p5, .ref o] (wOut g o f ++ wc) (some (.int 2)) (fun s => wOut g o f ++ w2 s) 18 419 := by
  refine KE.ofH (nL := 8) (by decide) rfl (Nat.le_of_ble_eq_true rfl) ?_
  intro p e s m args below meth c A ls C htab X hl
  have C : CT g p s m args meth c RL cL_change 8 (some .int) wsL_change A := C
  have hx := C.1
  have hb := C.2.1
  have hl : lv_has ls 8 [(0, .ref b), (1, .int p1), (2, .int p2), (3, .int p3), (4, .int p4), (5, .int p5), (6, .ref o)] := hl
  refine lv_aload hx hb dL_change_0 (lv_at hl 6 rfl) ?_
  refine lv_iconst (v := 0) hx hb dL_change_2 (by decide) ?_
  refine lv_aload_n hx hb dL_change_3 rfl (lv_at hl 0 rfl) ?_
  refine lv_iload_n hx hb dL_change_4 rfl (lv_at hl 1 rfl) ?_
  refine lv_iload_n hx hb dL_change_5 rfl (lv_at hl 2 rfl) ?_
  refine lv_iload_n hx hb dL_change_6 rfl (lv_at hl 3 rfl) ?_
  refine lv_iload hx hb dL_change_7 (lv_at hl 4 rfl) ?_
  refine lv_iload hx hb dL_change_9 (lv_at hl 5 rfl) ?_
  refine kxVc (wOut g o f) (List.perm_append_comm) C X hM (cw_L_change C) 0 (ci := 5) he rfl (As := [.int p1, .int p2, .int p3, .int p4, .int p5]) rfl hl (rest := [.int 0, .ref o]) rfl (Nat.le_of_ble_eq_true rfl) dL_change_11 ⟨Nat.le_of_ble_eq_true rfl, Nat.le_of_ble_eq_true rfl⟩ [⟨0, 16, 19, 25⟩] ⟨0, 16, 23, 13⟩ [] (by rw [htab]; rfl) (List.forall_mem_cons.mpr ⟨⟨by decide, kEx 0, lk_L_change_0, by decide⟩, List.forall_mem_nil _⟩) (by decide) (by decide) lk_L_change_1 (by decide) (fun t q H locs X => ?_)
  refine lv_astore (lv' := [(7, .ref q), (0, .ref b), (1, .int p1), (2, .int p2), (3, .int p3), (4, .int p4), (5, .int p5), (6, .ref o)]) hx hb dL_change_23 hl (by decide) rfl (fun ls hl => ?_)
  refine lv_iconst (v := 2) hx hb dL_change_25 (by decide) ?_
  exact keiret t C X dL_change_26
set_option maxRecDepth 100000 in
set_option maxHeartbeats 4000000 in
theorem kLr_change {S : Type} (l : Launch) (g : kG) (b o : Nat) (p1 : Int32) (p2 : Int32) (p3 : Int32) (p4 : Int32) (p5 : Int32) (fs : List Value) (wc : va_W) (he : wc[0]? = some (b, .inr (5, fs))) (f : Nat → Int64) (v : Int32) (w2 : S → va_W) (hM : KX l yX5_change wsX5_change rX5_change g [.ref b, .int p1, .int p2, .int p3, .int p4, .int p5] wc (.inr (some (.int v), w2)) 18 419) : KE (S := S) l yL_change wsL_change rL_change g [.ref b, .int p1, .int p2, .int p3, .int p4, .int p5, .ref o] (wOut g o f ++ wc) (some (.int 0)) (fun s => wOut g o (vp_updL f 0 v.toInt64) ++ w2 s) 18 419 := by
  refine KE.ofH (nL := 8) (by decide) rfl (Nat.le_of_ble_eq_true rfl) ?_
  intro p e s m args below meth c A ls C htab X hl
  have C : CT g p s m args meth c RL cL_change 8 (some .int) wsL_change A := C
  have hx := C.1
  have hb := C.2.1
  have hl : lv_has ls 8 [(0, .ref b), (1, .int p1), (2, .int p2), (3, .int p3), (4, .int p4), (5, .int p5), (6, .ref o)] := hl
  refine lv_aload hx hb dL_change_0 (lv_at hl 6 rfl) ?_
  refine lv_iconst (v := 0) hx hb dL_change_2 (by decide) ?_
  refine lv_aload_n hx hb dL_change_3 rfl (lv_at hl 0 rfl) ?_
  refine lv_iload_n hx hb dL_change_4 rfl (lv_at hl 1 rfl) ?_
  refine lv_iload_n hx hb dL_change_5 rfl (lv_at hl 2 rfl) ?_
  refine lv_iload_n hx hb dL_change_6 rfl (lv_at hl 3 rfl) ?_
  refine lv_iload hx hb dL_change_7 (lv_at hl 4 rfl) ?_
  refine lv_iload hx hb dL_change_9 (lv_at hl 5 rfl) ?_
  refine kxV (wOut g o f) (List.perm_append_comm) C X hM (cw_L_change C) 0 (ci := 5) he rfl (As := [.int p1, .int p2, .int p3, .int p4, .int p5]) rfl hl (rest := [.int 0, .ref o]) rfl (Nat.le_of_ble_eq_true rfl) (st2 := [.int v, .int 0, .ref o]) rfl dL_change_11 ⟨Nat.le_of_ble_eq_true rfl, Nat.le_of_ble_eq_true rfl⟩ (w3 := fun s => wOut g o f ++ w2 s) (fun _ => List.Perm.refl _) (fun t H locs X => ?_)
  refine lv_i2l (v := v.toInt64) hx hb dL_change_14 rfl ?_
  refine klast C X 0 rfl (i := 0) (by decide) (w2 := wOut g o (vp_updL f 0 v.toInt64) ++ w2 t) rfl dL_change_15 (fun H locs X => ?_)
  refine lv_goto (tgt := 27) hx hb dL_change_16 (by decide) ?_
  refine lv_iconst (v := 0) hx hb dL_change_27 (by decide) ?_
  exact keiret (w2 := fun s => wOut g o (vp_updL f 0 v.toInt64) ++ w2 s) t C X dL_change_28
abbrev rL_remove : Room := { frames := 9, cells := 15, slots := 401, locals := 276 }
theorem cw_L_remove {p : Program} {s : State} {m : MethodId} {args : Array Value} {meth : Method} {c : Code} {g : kG} {A : Nat → Prop} (C : CT g p s m args meth c RL cL_remove 5 (some .int) wsL_remove A) : CallW rL_remove s args RL RX5 30 yX5_remove cX5_remove 4 (some .int) wsX5_remove rX5_remove 15 401 2 := cwV 2 C.2.2.2.2.2.1 gL_remove_X5_remove rfl rfl rfl (by decide +kernel) ⟨Nat.le_of_ble_eq_true rfl, Nat.le_of_ble_eq_true rfl⟩
theorem lk_L_remove_0 : (Cond.classLink RL 25 (kEx 0)) ∈ wsL_remove := by decide +kernel
theorem lk_L_remove_1 : (Cond.classLink RL 15 (kEx 2)) ∈ wsL_remove := by decide +kernel
set_option maxRecDepth 100000 in
set_option maxHeartbeats 4000000 in
theorem kLt_remove_0 {S : Type} (l : Launch) (g : kG) (b o : Nat) (p1 : Int32) (p2 : Int32) (fs : List Value) (wc : va_W) (he : wc[0]? = some (b, .inr (5, fs))) (f : Nat → Int64) (w2 : S → va_W) (hM : KX l yX5_remove wsX5_remove rX5_remove g [.ref b, .int p1, .int p2] wc (.inl (0, w2)) 15 401) : KE (S := S) l yL_remove wsL_remove rL_remove g [.ref b, .int p1, .int p2, .ref o] (wOut g o f ++ wc) (some (.int 1)) (fun s => wOut g o f ++ w2 s) 15 401 := by
  refine KE.ofH (nL := 5) (by decide) rfl (Nat.le_of_ble_eq_true rfl) ?_
  intro p e s m args below meth c A ls C htab X hl
  have C : CT g p s m args meth c RL cL_remove 5 (some .int) wsL_remove A := C
  have hx := C.1
  have hb := C.2.1
  have hl : lv_has ls 5 [(0, .ref b), (1, .int p1), (2, .int p2), (3, .ref o)] := hl
  refine lv_aload_n hx hb dL_remove_0 rfl (lv_at hl 3 rfl) ?_
  refine lv_iconst (v := 0) hx hb dL_remove_1 (by decide) ?_
  refine lv_aload_n hx hb dL_remove_2 rfl (lv_at hl 0 rfl) ?_
  refine lv_iload_n hx hb dL_remove_3 rfl (lv_at hl 1 rfl) ?_
  refine lv_iload_n hx hb dL_remove_4 rfl (lv_at hl 2 rfl) ?_
  refine kxVc (wOut g o f) (List.perm_append_comm) C X hM (cw_L_remove C) 0 (ci := 5) he rfl (As := [.int p1, .int p2]) rfl hl (rest := [.int 0, .ref o]) rfl (Nat.le_of_ble_eq_true rfl) dL_remove_5 ⟨Nat.le_of_ble_eq_true rfl, Nat.le_of_ble_eq_true rfl⟩ [] ⟨0, 10, 13, 25⟩ [⟨0, 10, 17, 15⟩] (by rw [htab]; rfl) (fun z hz => absurd hz List.not_mem_nil) (by decide) (by decide) lk_L_remove_0 (by decide) (fun t q H locs X => ?_)
  refine lv_astore (lv' := [(4, .ref q), (0, .ref b), (1, .int p1), (2, .int p2), (3, .ref o)]) hx hb dL_remove_13 hl (by decide) rfl (fun ls hl => ?_)
  refine lv_iconst (v := 1) hx hb dL_remove_15 (by decide) ?_
  exact keiret t C X dL_remove_16
set_option maxRecDepth 100000 in
set_option maxHeartbeats 4000000 in
theorem kLt_remove_1 {S : Type} (l : Launch) (g : kG) (b o : Nat) (p1 : Int32) (p2 : Int32) (fs : List Value) (wc : va_W) (he : wc[0]? = some (b, .inr (5, fs))) (f : Nat → Int64) (w2 : S → va_W) (hM : KX l yX5_remove wsX5_remove rX5_remove g [.ref b, .int p1, .int p2] wc (.inl (2, w2)) 15 401) : KE (S := S) l yL_remove wsL_remove rL_remove g [.ref b, .int p1, .int p2, .ref o] (wOut g o f ++ wc) (some (.int 2)) (fun s => wOut g o f ++ w2 s) 15 401 := by
  refine KE.ofH (nL := 5) (by decide) rfl (Nat.le_of_ble_eq_true rfl) ?_
  intro p e s m args below meth c A ls C htab X hl
  have C : CT g p s m args meth c RL cL_remove 5 (some .int) wsL_remove A := C
  have hx := C.1
  have hb := C.2.1
  have hl : lv_has ls 5 [(0, .ref b), (1, .int p1), (2, .int p2), (3, .ref o)] := hl
  refine lv_aload_n hx hb dL_remove_0 rfl (lv_at hl 3 rfl) ?_
  refine lv_iconst (v := 0) hx hb dL_remove_1 (by decide) ?_
  refine lv_aload_n hx hb dL_remove_2 rfl (lv_at hl 0 rfl) ?_
  refine lv_iload_n hx hb dL_remove_3 rfl (lv_at hl 1 rfl) ?_
  refine lv_iload_n hx hb dL_remove_4 rfl (lv_at hl 2 rfl) ?_
  refine kxVc (wOut g o f) (List.perm_append_comm) C X hM (cw_L_remove C) 0 (ci := 5) he rfl (As := [.int p1, .int p2]) rfl hl (rest := [.int 0, .ref o]) rfl (Nat.le_of_ble_eq_true rfl) dL_remove_5 ⟨Nat.le_of_ble_eq_true rfl, Nat.le_of_ble_eq_true rfl⟩ [⟨0, 10, 13, 25⟩] ⟨0, 10, 17, 15⟩ [] (by rw [htab]; rfl) (List.forall_mem_cons.mpr ⟨⟨by decide, kEx 0, lk_L_remove_0, by decide⟩, List.forall_mem_nil _⟩) (by decide) (by decide) lk_L_remove_1 (by decide) (fun t q H locs X => ?_)
  refine lv_astore (lv' := [(4, .ref q), (0, .ref b), (1, .int p1), (2, .int p2), (3, .ref o)]) hx hb dL_remove_17 hl (by decide) rfl (fun ls hl => ?_)
  refine lv_iconst (v := 2) hx hb dL_remove_19 (by decide) ?_
  exact keiret t C X dL_remove_20
set_option maxRecDepth 100000 in
set_option maxHeartbeats 4000000 in
theorem kLr_remove {S : Type} (l : Launch) (g : kG) (b o : Nat) (p1 : Int32) (p2 : Int32) (fs : List Value) (wc : va_W) (he : wc[0]? = some (b, .inr (5, fs))) (f : Nat → Int64) (v : Int32) (w2 : S → va_W) (hM : KX l yX5_remove wsX5_remove rX5_remove g [.ref b, .int p1, .int p2] wc (.inr (some (.int v), w2)) 15 401) : KE (S := S) l yL_remove wsL_remove rL_remove g [.ref b, .int p1, .int p2, .ref o] (wOut g o f ++ wc) (some (.int 0)) (fun s => wOut g o (vp_updL f 0 v.toInt64) ++ w2 s) 15 401 := by
  refine KE.ofH (nL := 5) (by decide) rfl (Nat.le_of_ble_eq_true rfl) ?_
  intro p e s m args below meth c A ls C htab X hl
  have C : CT g p s m args meth c RL cL_remove 5 (some .int) wsL_remove A := C
  have hx := C.1
  have hb := C.2.1
  have hl : lv_has ls 5 [(0, .ref b), (1, .int p1), (2, .int p2), (3, .ref o)] := hl
  refine lv_aload_n hx hb dL_remove_0 rfl (lv_at hl 3 rfl) ?_
  refine lv_iconst (v := 0) hx hb dL_remove_1 (by decide) ?_
  refine lv_aload_n hx hb dL_remove_2 rfl (lv_at hl 0 rfl) ?_
  refine lv_iload_n hx hb dL_remove_3 rfl (lv_at hl 1 rfl) ?_
  refine lv_iload_n hx hb dL_remove_4 rfl (lv_at hl 2 rfl) ?_
  refine kxV (wOut g o f) (List.perm_append_comm) C X hM (cw_L_remove C) 0 (ci := 5) he rfl (As := [.int p1, .int p2]) rfl hl (rest := [.int 0, .ref o]) rfl (Nat.le_of_ble_eq_true rfl) (st2 := [.int v, .int 0, .ref o]) rfl dL_remove_5 ⟨Nat.le_of_ble_eq_true rfl, Nat.le_of_ble_eq_true rfl⟩ (w3 := fun s => wOut g o f ++ w2 s) (fun _ => List.Perm.refl _) (fun t H locs X => ?_)
  refine lv_i2l (v := v.toInt64) hx hb dL_remove_8 rfl ?_
  refine klast C X 0 rfl (i := 0) (by decide) (w2 := wOut g o (vp_updL f 0 v.toInt64) ++ w2 t) rfl dL_remove_9 (fun H locs X => ?_)
  refine lv_goto (tgt := 21) hx hb dL_remove_10 (by decide) ?_
  refine lv_iconst (v := 0) hx hb dL_remove_21 (by decide) ?_
  exact keiret (w2 := fun s => wOut g o (vp_updL f 0 v.toInt64) ++ w2 s) t C X dL_remove_22
abbrev rL_erase : Room := { frames := 8, cells := 14, slots := 395, locals := 274 }
theorem cw_L_erase {p : Program} {s : State} {m : MethodId} {args : Array Value} {meth : Method} {c : Code} {g : kG} {A : Nat → Prop} (C : CT g p s m args meth c RL cL_erase 4 (some .int) wsL_erase A) : CallW rL_erase s args RL RX5 34 yX5_erase cX5_erase 2 (some .int) wsX5_erase rX5_erase 14 395 1 := cwV 1 C.2.2.2.2.2.1 gL_erase_X5_erase rfl rfl rfl (by decide +kernel) ⟨Nat.le_of_ble_eq_true rfl, Nat.le_of_ble_eq_true rfl⟩
theorem lk_L_erase_0 : (Cond.classLink RL 25 (kEx 0)) ∈ wsL_erase := by decide +kernel
set_option maxRecDepth 100000 in
set_option maxHeartbeats 4000000 in
theorem kLt_erase_0 {S : Type} (l : Launch) (g : kG) (b o : Nat) (p1 : Int32) (fs : List Value) (wc : va_W) (he : wc[0]? = some (b, .inr (5, fs))) (f : Nat → Int64) (w2 : S → va_W) (hM : KX l yX5_erase wsX5_erase rX5_erase g [.ref b, .int p1] wc (.inl (0, w2)) 14 395) : KE (S := S) l yL_erase wsL_erase rL_erase g [.ref b, .int p1, .ref o] (wOut g o f ++ wc) (some (.int 1)) (fun s => wOut g o f ++ w2 s) 14 395 := by
  refine KE.ofH (nL := 4) (by decide) rfl (Nat.le_of_ble_eq_true rfl) ?_
  intro p e s m args below meth c A ls C htab X hl
  have C : CT g p s m args meth c RL cL_erase 4 (some .int) wsL_erase A := C
  have hx := C.1
  have hb := C.2.1
  have hl : lv_has ls 4 [(0, .ref b), (1, .int p1), (2, .ref o)] := hl
  refine lv_aload_n hx hb dL_erase_0 rfl (lv_at hl 2 rfl) ?_
  refine lv_iconst (v := 0) hx hb dL_erase_1 (by decide) ?_
  refine lv_aload_n hx hb dL_erase_2 rfl (lv_at hl 0 rfl) ?_
  refine lv_iload_n hx hb dL_erase_3 rfl (lv_at hl 1 rfl) ?_
  refine kxVc (wOut g o f) (List.perm_append_comm) C X hM (cw_L_erase C) 0 (ci := 5) he rfl (As := [.int p1]) rfl hl (rest := [.int 0, .ref o]) rfl (Nat.le_of_ble_eq_true rfl) dL_erase_4 ⟨Nat.le_of_ble_eq_true rfl, Nat.le_of_ble_eq_true rfl⟩ [] ⟨0, 9, 12, 25⟩ [] (by rw [htab]; rfl) (fun z hz => absurd hz List.not_mem_nil) (by decide) (by decide) lk_L_erase_0 (by decide) (fun t q H locs X => ?_)
  refine lv_astore_n (lv' := [(3, .ref q), (0, .ref b), (1, .int p1), (2, .ref o)]) hx hb dL_erase_12 rfl hl (by decide) rfl (fun ls hl => ?_)
  refine lv_iconst (v := 1) hx hb dL_erase_13 (by decide) ?_
  exact keiret t C X dL_erase_14
set_option maxRecDepth 100000 in
set_option maxHeartbeats 4000000 in
theorem kLr_erase {S : Type} (l : Launch) (g : kG) (b o : Nat) (p1 : Int32) (fs : List Value) (wc : va_W) (he : wc[0]? = some (b, .inr (5, fs))) (f : Nat → Int64) (v : Int32) (w2 : S → va_W) (hM : KX l yX5_erase wsX5_erase rX5_erase g [.ref b, .int p1] wc (.inr (some (.int v), w2)) 14 395) : KE (S := S) l yL_erase wsL_erase rL_erase g [.ref b, .int p1, .ref o] (wOut g o f ++ wc) (some (.int 0)) (fun s => wOut g o (vp_updL f 0 v.toInt64) ++ w2 s) 14 395 := by
  refine KE.ofH (nL := 4) (by decide) rfl (Nat.le_of_ble_eq_true rfl) ?_
  intro p e s m args below meth c A ls C htab X hl
  have C : CT g p s m args meth c RL cL_erase 4 (some .int) wsL_erase A := C
  have hx := C.1
  have hb := C.2.1
  have hl : lv_has ls 4 [(0, .ref b), (1, .int p1), (2, .ref o)] := hl
  refine lv_aload_n hx hb dL_erase_0 rfl (lv_at hl 2 rfl) ?_
  refine lv_iconst (v := 0) hx hb dL_erase_1 (by decide) ?_
  refine lv_aload_n hx hb dL_erase_2 rfl (lv_at hl 0 rfl) ?_
  refine lv_iload_n hx hb dL_erase_3 rfl (lv_at hl 1 rfl) ?_
  refine kxV (wOut g o f) (List.perm_append_comm) C X hM (cw_L_erase C) 0 (ci := 5) he rfl (As := [.int p1]) rfl hl (rest := [.int 0, .ref o]) rfl (Nat.le_of_ble_eq_true rfl) (st2 := [.int v, .int 0, .ref o]) rfl dL_erase_4 ⟨Nat.le_of_ble_eq_true rfl, Nat.le_of_ble_eq_true rfl⟩ (w3 := fun s => wOut g o f ++ w2 s) (fun _ => List.Perm.refl _) (fun t H locs X => ?_)
  refine lv_i2l (v := v.toInt64) hx hb dL_erase_7 rfl ?_
  refine klast C X 0 rfl (i := 0) (by decide) (w2 := wOut g o (vp_updL f 0 v.toInt64) ++ w2 t) rfl dL_erase_8 (fun H locs X => ?_)
  refine lv_goto (tgt := 15) hx hb dL_erase_9 (by decide) ?_
  refine lv_iconst (v := 0) hx hb dL_erase_15 (by decide) ?_
  exact keiret (w2 := fun s => wOut g o (vp_updL f 0 v.toInt64) ++ w2 s) t C X dL_erase_16
abbrev rL_simplify : Room := { frames := 9, cells := 15, slots := 401, locals := 277 }
theorem cw_L_simplify {p : Program} {s : State} {m : MethodId} {args : Array Value} {meth : Method} {c : Code} {g : kG} {A : Nat → Prop} (C : CT g p s m args meth c RL cL_simplify 5 (some .int) wsL_simplify A) : CallW rL_simplify s args RL RX5 38 yX5_simplify cX5_simplify 5 (some .int) wsX5_simplify rX5_simplify 15 401 2 := cwV 2 C.2.2.2.2.2.1 gL_simplify_X5_simplify rfl rfl rfl (by decide +kernel) ⟨Nat.le_of_ble_eq_true rfl, Nat.le_of_ble_eq_true rfl⟩
theorem lk_L_simplify_0 : (Cond.classLink RL 25 (kEx 0)) ∈ wsL_simplify := by decide +kernel
theorem lk_L_simplify_1 : (Cond.classLink RL 13 (kEx 1)) ∈ wsL_simplify := by decide +kernel
set_option maxRecDepth 100000 in
set_option maxHeartbeats 4000000 in
theorem kLt_simplify_0 {S : Type} (l : Launch) (g : kG) (b o : Nat) (p1 : Int32) (p2 : Int32) (fs : List Value) (wc : va_W) (he : wc[0]? = some (b, .inr (5, fs))) (f : Nat → Int64) (w2 : S → va_W) (hM : KX l yX5_simplify wsX5_simplify rX5_simplify g [.ref b, .int p1, .int p2] wc (.inl (0, w2)) 15 401) : KE (S := S) l yL_simplify wsL_simplify rL_simplify g [.ref b, .int p1, .int p2, .ref o] (wOut g o f ++ wc) (some (.int 1)) (fun s => wOut g o f ++ w2 s) 15 401 := by
  refine KE.ofH (nL := 5) (by decide) rfl (Nat.le_of_ble_eq_true rfl) ?_
  intro p e s m args below meth c A ls C htab X hl
  have C : CT g p s m args meth c RL cL_simplify 5 (some .int) wsL_simplify A := C
  have hx := C.1
  have hb := C.2.1
  have hl : lv_has ls 5 [(0, .ref b), (1, .int p1), (2, .int p2), (3, .ref o)] := hl
  refine lv_aload_n hx hb dL_simplify_0 rfl (lv_at hl 3 rfl) ?_
  refine lv_iconst (v := 0) hx hb dL_simplify_1 (by decide) ?_
  refine lv_aload_n hx hb dL_simplify_2 rfl (lv_at hl 0 rfl) ?_
  refine lv_iload_n hx hb dL_simplify_3 rfl (lv_at hl 1 rfl) ?_
  refine lv_iload_n hx hb dL_simplify_4 rfl (lv_at hl 2 rfl) ?_
  refine kxVc (wOut g o f) (List.perm_append_comm) C X hM (cw_L_simplify C) 0 (ci := 5) he rfl (As := [.int p1, .int p2]) rfl hl (rest := [.int 0, .ref o]) rfl (Nat.le_of_ble_eq_true rfl) dL_simplify_5 ⟨Nat.le_of_ble_eq_true rfl, Nat.le_of_ble_eq_true rfl⟩ [] ⟨0, 10, 13, 25⟩ [⟨0, 10, 17, 13⟩] (by rw [htab]; rfl) (fun z hz => absurd hz List.not_mem_nil) (by decide) (by decide) lk_L_simplify_0 (by decide) (fun t q H locs X => ?_)
  refine lv_astore (lv' := [(4, .ref q), (0, .ref b), (1, .int p1), (2, .int p2), (3, .ref o)]) hx hb dL_simplify_13 hl (by decide) rfl (fun ls hl => ?_)
  refine lv_iconst (v := 1) hx hb dL_simplify_15 (by decide) ?_
  exact keiret t C X dL_simplify_16
set_option maxRecDepth 100000 in
set_option maxHeartbeats 4000000 in
theorem kLt_simplify_1 {S : Type} (l : Launch) (g : kG) (b o : Nat) (p1 : Int32) (p2 : Int32) (fs : List Value) (wc : va_W) (he : wc[0]? = some (b, .inr (5, fs))) (f : Nat → Int64) (w2 : S → va_W) (hM : KX l yX5_simplify wsX5_simplify rX5_simplify g [.ref b, .int p1, .int p2] wc (.inl (1, w2)) 15 401) : KE (S := S) l yL_simplify wsL_simplify rL_simplify g [.ref b, .int p1, .int p2, .ref o] (wOut g o f ++ wc) (some (.int 2)) (fun s => wOut g o f ++ w2 s) 15 401 := by
  refine KE.ofH (nL := 5) (by decide) rfl (Nat.le_of_ble_eq_true rfl) ?_
  intro p e s m args below meth c A ls C htab X hl
  have C : CT g p s m args meth c RL cL_simplify 5 (some .int) wsL_simplify A := C
  have hx := C.1
  have hb := C.2.1
  have hl : lv_has ls 5 [(0, .ref b), (1, .int p1), (2, .int p2), (3, .ref o)] := hl
  refine lv_aload_n hx hb dL_simplify_0 rfl (lv_at hl 3 rfl) ?_
  refine lv_iconst (v := 0) hx hb dL_simplify_1 (by decide) ?_
  refine lv_aload_n hx hb dL_simplify_2 rfl (lv_at hl 0 rfl) ?_
  refine lv_iload_n hx hb dL_simplify_3 rfl (lv_at hl 1 rfl) ?_
  refine lv_iload_n hx hb dL_simplify_4 rfl (lv_at hl 2 rfl) ?_
  refine kxVc (wOut g o f) (List.perm_append_comm) C X hM (cw_L_simplify C) 0 (ci := 5) he rfl (As := [.int p1, .int p2]) rfl hl (rest := [.int 0, .ref o]) rfl (Nat.le_of_ble_eq_true rfl) dL_simplify_5 ⟨Nat.le_of_ble_eq_true rfl, Nat.le_of_ble_eq_true rfl⟩ [⟨0, 10, 13, 25⟩] ⟨0, 10, 17, 13⟩ [] (by rw [htab]; rfl) (List.forall_mem_cons.mpr ⟨⟨by decide, kEx 0, lk_L_simplify_0, by decide⟩, List.forall_mem_nil _⟩) (by decide) (by decide) lk_L_simplify_1 (by decide) (fun t q H locs X => ?_)
  refine lv_astore (lv' := [(4, .ref q), (0, .ref b), (1, .int p1), (2, .int p2), (3, .ref o)]) hx hb dL_simplify_17 hl (by decide) rfl (fun ls hl => ?_)
  refine lv_iconst (v := 2) hx hb dL_simplify_19 (by decide) ?_
  exact keiret t C X dL_simplify_20
set_option maxRecDepth 100000 in
set_option maxHeartbeats 4000000 in
theorem kLr_simplify {S : Type} (l : Launch) (g : kG) (b o : Nat) (p1 : Int32) (p2 : Int32) (fs : List Value) (wc : va_W) (he : wc[0]? = some (b, .inr (5, fs))) (f : Nat → Int64) (v : Int32) (w2 : S → va_W) (hM : KX l yX5_simplify wsX5_simplify rX5_simplify g [.ref b, .int p1, .int p2] wc (.inr (some (.int v), w2)) 15 401) : KE (S := S) l yL_simplify wsL_simplify rL_simplify g [.ref b, .int p1, .int p2, .ref o] (wOut g o f ++ wc) (some (.int 0)) (fun s => wOut g o (vp_updL f 0 v.toInt64) ++ w2 s) 15 401 := by
  refine KE.ofH (nL := 5) (by decide) rfl (Nat.le_of_ble_eq_true rfl) ?_
  intro p e s m args below meth c A ls C htab X hl
  have C : CT g p s m args meth c RL cL_simplify 5 (some .int) wsL_simplify A := C
  have hx := C.1
  have hb := C.2.1
  have hl : lv_has ls 5 [(0, .ref b), (1, .int p1), (2, .int p2), (3, .ref o)] := hl
  refine lv_aload_n hx hb dL_simplify_0 rfl (lv_at hl 3 rfl) ?_
  refine lv_iconst (v := 0) hx hb dL_simplify_1 (by decide) ?_
  refine lv_aload_n hx hb dL_simplify_2 rfl (lv_at hl 0 rfl) ?_
  refine lv_iload_n hx hb dL_simplify_3 rfl (lv_at hl 1 rfl) ?_
  refine lv_iload_n hx hb dL_simplify_4 rfl (lv_at hl 2 rfl) ?_
  refine kxV (wOut g o f) (List.perm_append_comm) C X hM (cw_L_simplify C) 0 (ci := 5) he rfl (As := [.int p1, .int p2]) rfl hl (rest := [.int 0, .ref o]) rfl (Nat.le_of_ble_eq_true rfl) (st2 := [.int v, .int 0, .ref o]) rfl dL_simplify_5 ⟨Nat.le_of_ble_eq_true rfl, Nat.le_of_ble_eq_true rfl⟩ (w3 := fun s => wOut g o f ++ w2 s) (fun _ => List.Perm.refl _) (fun t H locs X => ?_)
  refine lv_i2l (v := v.toInt64) hx hb dL_simplify_8 rfl ?_
  refine klast C X 0 rfl (i := 0) (by decide) (w2 := wOut g o (vp_updL f 0 v.toInt64) ++ w2 t) rfl dL_simplify_9 (fun H locs X => ?_)
  refine lv_goto (tgt := 21) hx hb dL_simplify_10 (by decide) ?_
  refine lv_iconst (v := 0) hx hb dL_simplify_21 (by decide) ?_
  exact keiret (w2 := fun s => wOut g o (vp_updL f 0 v.toInt64) ++ w2 s) t C X dL_simplify_22
abbrev rL_bake : Room := { frames := 9, cells := 14, slots := 395, locals := 276 }
theorem cw_L_bake {p : Program} {s : State} {m : MethodId} {args : Array Value} {meth : Method} {c : Code} {g : kG} {A : Nat → Prop} (C : CT g p s m args meth c RL cL_bake 4 (some .int) wsL_bake A) : CallW rL_bake s args RL RX5 41 yX5_bake cX5_bake 4 (some .int) wsX5_bake rX5_bake 14 395 1 := cwV 1 C.2.2.2.2.2.1 gL_bake_X5_bake rfl rfl rfl (by decide +kernel) ⟨Nat.le_of_ble_eq_true rfl, Nat.le_of_ble_eq_true rfl⟩
theorem lk_L_bake_0 : (Cond.classLink RL 25 (kEx 0)) ∈ wsL_bake := by decide +kernel
set_option maxRecDepth 100000 in
set_option maxHeartbeats 4000000 in
theorem kLt_bake_0 {S : Type} (l : Launch) (g : kG) (b o : Nat) (p1 : Int32) (fs : List Value) (wc : va_W) (he : wc[0]? = some (b, .inr (5, fs))) (f : Nat → Int64) (w2 : S → va_W) (hM : KX l yX5_bake wsX5_bake rX5_bake g [.ref b, .int p1] wc (.inl (0, w2)) 14 395) : KE (S := S) l yL_bake wsL_bake rL_bake g [.ref b, .int p1, .ref o] (wOut g o f ++ wc) (some (.int 1)) (fun s => wOut g o f ++ w2 s) 14 395 := by
  refine KE.ofH (nL := 4) (by decide) rfl (Nat.le_of_ble_eq_true rfl) ?_
  intro p e s m args below meth c A ls C htab X hl
  have C : CT g p s m args meth c RL cL_bake 4 (some .int) wsL_bake A := C
  have hx := C.1
  have hb := C.2.1
  have hl : lv_has ls 4 [(0, .ref b), (1, .int p1), (2, .ref o)] := hl
  refine lv_aload_n hx hb dL_bake_0 rfl (lv_at hl 2 rfl) ?_
  refine lv_iconst (v := 0) hx hb dL_bake_1 (by decide) ?_
  refine lv_aload_n hx hb dL_bake_2 rfl (lv_at hl 0 rfl) ?_
  refine lv_iload_n hx hb dL_bake_3 rfl (lv_at hl 1 rfl) ?_
  refine kxVc (wOut g o f) (List.perm_append_comm) C X hM (cw_L_bake C) 0 (ci := 5) he rfl (As := [.int p1]) rfl hl (rest := [.int 0, .ref o]) rfl (Nat.le_of_ble_eq_true rfl) dL_bake_4 ⟨Nat.le_of_ble_eq_true rfl, Nat.le_of_ble_eq_true rfl⟩ [] ⟨0, 9, 12, 25⟩ [] (by rw [htab]; rfl) (fun z hz => absurd hz List.not_mem_nil) (by decide) (by decide) lk_L_bake_0 (by decide) (fun t q H locs X => ?_)
  refine lv_astore_n (lv' := [(3, .ref q), (0, .ref b), (1, .int p1), (2, .ref o)]) hx hb dL_bake_12 rfl hl (by decide) rfl (fun ls hl => ?_)
  refine lv_iconst (v := 1) hx hb dL_bake_13 (by decide) ?_
  exact keiret t C X dL_bake_14
set_option maxRecDepth 100000 in
set_option maxHeartbeats 4000000 in
theorem kLr_bake {S : Type} (l : Launch) (g : kG) (b o : Nat) (p1 : Int32) (fs : List Value) (wc : va_W) (he : wc[0]? = some (b, .inr (5, fs))) (f : Nat → Int64) (v : Int32) (w2 : S → va_W) (hM : KX l yX5_bake wsX5_bake rX5_bake g [.ref b, .int p1] wc (.inr (some (.int v), w2)) 14 395) : KE (S := S) l yL_bake wsL_bake rL_bake g [.ref b, .int p1, .ref o] (wOut g o f ++ wc) (some (.int 0)) (fun s => wOut g o (vp_updL f 0 v.toInt64) ++ w2 s) 14 395 := by
  refine KE.ofH (nL := 4) (by decide) rfl (Nat.le_of_ble_eq_true rfl) ?_
  intro p e s m args below meth c A ls C htab X hl
  have C : CT g p s m args meth c RL cL_bake 4 (some .int) wsL_bake A := C
  have hx := C.1
  have hb := C.2.1
  have hl : lv_has ls 4 [(0, .ref b), (1, .int p1), (2, .ref o)] := hl
  refine lv_aload_n hx hb dL_bake_0 rfl (lv_at hl 2 rfl) ?_
  refine lv_iconst (v := 0) hx hb dL_bake_1 (by decide) ?_
  refine lv_aload_n hx hb dL_bake_2 rfl (lv_at hl 0 rfl) ?_
  refine lv_iload_n hx hb dL_bake_3 rfl (lv_at hl 1 rfl) ?_
  refine kxV (wOut g o f) (List.perm_append_comm) C X hM (cw_L_bake C) 0 (ci := 5) he rfl (As := [.int p1]) rfl hl (rest := [.int 0, .ref o]) rfl (Nat.le_of_ble_eq_true rfl) (st2 := [.int v, .int 0, .ref o]) rfl dL_bake_4 ⟨Nat.le_of_ble_eq_true rfl, Nat.le_of_ble_eq_true rfl⟩ (w3 := fun s => wOut g o f ++ w2 s) (fun _ => List.Perm.refl _) (fun t H locs X => ?_)
  refine lv_i2l (v := v.toInt64) hx hb dL_bake_7 rfl ?_
  refine klast C X 0 rfl (i := 0) (by decide) (w2 := wOut g o (vp_updL f 0 v.toInt64) ++ w2 t) rfl dL_bake_8 (fun H locs X => ?_)
  refine lv_goto (tgt := 15) hx hb dL_bake_9 (by decide) ?_
  refine lv_iconst (v := 0) hx hb dL_bake_15 (by decide) ?_
  exact keiret (w2 := fun s => wOut g o (vp_updL f 0 v.toInt64) ++ w2 s) t C X dL_bake_16
abbrev rL_set : Room := { frames := 8, cells := 15, slots := 401, locals := 276 }
theorem cw_L_set {p : Program} {s : State} {m : MethodId} {args : Array Value} {meth : Method} {c : Code} {g : kG} {A : Nat → Prop} (C : CT g p s m args meth c RL cL_set 5 (some .int) wsL_set A) : CallW rL_set s args RL RX5 44 yX5_set cX5_set 4 (some .int) wsX5_set rX5_set 15 401 2 := cwV 2 C.2.2.2.2.2.1 gL_set_X5_set rfl rfl rfl (by decide +kernel) ⟨Nat.le_of_ble_eq_true rfl, Nat.le_of_ble_eq_true rfl⟩
theorem lk_L_set_0 : (Cond.classLink RL 25 (kEx 0)) ∈ wsL_set := by decide +kernel
theorem lk_L_set_1 : (Cond.classLink RL 13 (kEx 1)) ∈ wsL_set := by decide +kernel
set_option maxRecDepth 100000 in
set_option maxHeartbeats 4000000 in
theorem kLt_set_0 {S : Type} (l : Launch) (g : kG) (b o : Nat) (p1 : Int32) (p2 : Int32) (fs : List Value) (wc : va_W) (he : wc[0]? = some (b, .inr (5, fs))) (f : Nat → Int64) (w2 : S → va_W) (hM : KX l yX5_set wsX5_set rX5_set g [.ref b, .int p1, .int p2] wc (.inl (0, w2)) 15 401) : KE (S := S) l yL_set wsL_set rL_set g [.ref b, .int p1, .int p2, .ref o] (wOut g o f ++ wc) (some (.int 1)) (fun s => wOut g o f ++ w2 s) 15 401 := by
  refine KE.ofH (nL := 5) (by decide) rfl (Nat.le_of_ble_eq_true rfl) ?_
  intro p e s m args below meth c A ls C htab X hl
  have C : CT g p s m args meth c RL cL_set 5 (some .int) wsL_set A := C
  have hx := C.1
  have hb := C.2.1
  have hl : lv_has ls 5 [(0, .ref b), (1, .int p1), (2, .int p2), (3, .ref o)] := hl
  refine lv_aload_n hx hb dL_set_0 rfl (lv_at hl 3 rfl) ?_
  refine lv_iconst (v := 0) hx hb dL_set_1 (by decide) ?_
  refine lv_aload_n hx hb dL_set_2 rfl (lv_at hl 0 rfl) ?_
  refine lv_iload_n hx hb dL_set_3 rfl (lv_at hl 1 rfl) ?_
  refine lv_iload_n hx hb dL_set_4 rfl (lv_at hl 2 rfl) ?_
  refine kxVc (wOut g o f) (List.perm_append_comm) C X hM (cw_L_set C) 0 (ci := 5) he rfl (As := [.int p1, .int p2]) rfl hl (rest := [.int 0, .ref o]) rfl (Nat.le_of_ble_eq_true rfl) dL_set_5 ⟨Nat.le_of_ble_eq_true rfl, Nat.le_of_ble_eq_true rfl⟩ [] ⟨0, 10, 13, 25⟩ [⟨0, 10, 17, 13⟩] (by rw [htab]; rfl) (fun z hz => absurd hz List.not_mem_nil) (by decide) (by decide) lk_L_set_0 (by decide) (fun t q H locs X => ?_)
  refine lv_astore (lv' := [(4, .ref q), (0, .ref b), (1, .int p1), (2, .int p2), (3, .ref o)]) hx hb dL_set_13 hl (by decide) rfl (fun ls hl => ?_)
  refine lv_iconst (v := 1) hx hb dL_set_15 (by decide) ?_
  exact keiret t C X dL_set_16
set_option maxRecDepth 100000 in
set_option maxHeartbeats 4000000 in
theorem kLt_set_1 {S : Type} (l : Launch) (g : kG) (b o : Nat) (p1 : Int32) (p2 : Int32) (fs : List Value) (wc : va_W) (he : wc[0]? = some (b, .inr (5, fs))) (f : Nat → Int64) (w2 : S → va_W) (hM : KX l yX5_set wsX5_set rX5_set g [.ref b, .int p1, .int p2] wc (.inl (1, w2)) 15 401) : KE (S := S) l yL_set wsL_set rL_set g [.ref b, .int p1, .int p2, .ref o] (wOut g o f ++ wc) (some (.int 2)) (fun s => wOut g o f ++ w2 s) 15 401 := by
  refine KE.ofH (nL := 5) (by decide) rfl (Nat.le_of_ble_eq_true rfl) ?_
  intro p e s m args below meth c A ls C htab X hl
  have C : CT g p s m args meth c RL cL_set 5 (some .int) wsL_set A := C
  have hx := C.1
  have hb := C.2.1
  have hl : lv_has ls 5 [(0, .ref b), (1, .int p1), (2, .int p2), (3, .ref o)] := hl
  refine lv_aload_n hx hb dL_set_0 rfl (lv_at hl 3 rfl) ?_
  refine lv_iconst (v := 0) hx hb dL_set_1 (by decide) ?_
  refine lv_aload_n hx hb dL_set_2 rfl (lv_at hl 0 rfl) ?_
  refine lv_iload_n hx hb dL_set_3 rfl (lv_at hl 1 rfl) ?_
  refine lv_iload_n hx hb dL_set_4 rfl (lv_at hl 2 rfl) ?_
  refine kxVc (wOut g o f) (List.perm_append_comm) C X hM (cw_L_set C) 0 (ci := 5) he rfl (As := [.int p1, .int p2]) rfl hl (rest := [.int 0, .ref o]) rfl (Nat.le_of_ble_eq_true rfl) dL_set_5 ⟨Nat.le_of_ble_eq_true rfl, Nat.le_of_ble_eq_true rfl⟩ [⟨0, 10, 13, 25⟩] ⟨0, 10, 17, 13⟩ [] (by rw [htab]; rfl) (List.forall_mem_cons.mpr ⟨⟨by decide, kEx 0, lk_L_set_0, by decide⟩, List.forall_mem_nil _⟩) (by decide) (by decide) lk_L_set_1 (by decide) (fun t q H locs X => ?_)
  refine lv_astore (lv' := [(4, .ref q), (0, .ref b), (1, .int p1), (2, .int p2), (3, .ref o)]) hx hb dL_set_17 hl (by decide) rfl (fun ls hl => ?_)
  refine lv_iconst (v := 2) hx hb dL_set_19 (by decide) ?_
  exact keiret t C X dL_set_20
set_option maxRecDepth 100000 in
set_option maxHeartbeats 4000000 in
theorem kLr_set {S : Type} (l : Launch) (g : kG) (b o : Nat) (p1 : Int32) (p2 : Int32) (fs : List Value) (wc : va_W) (he : wc[0]? = some (b, .inr (5, fs))) (f : Nat → Int64) (v : Int32) (w2 : S → va_W) (hM : KX l yX5_set wsX5_set rX5_set g [.ref b, .int p1, .int p2] wc (.inr (some (.int v), w2)) 15 401) : KE (S := S) l yL_set wsL_set rL_set g [.ref b, .int p1, .int p2, .ref o] (wOut g o f ++ wc) (some (.int 0)) (fun s => wOut g o (vp_updL f 0 v.toInt64) ++ w2 s) 15 401 := by
  refine KE.ofH (nL := 5) (by decide) rfl (Nat.le_of_ble_eq_true rfl) ?_
  intro p e s m args below meth c A ls C htab X hl
  have C : CT g p s m args meth c RL cL_set 5 (some .int) wsL_set A := C
  have hx := C.1
  have hb := C.2.1
  have hl : lv_has ls 5 [(0, .ref b), (1, .int p1), (2, .int p2), (3, .ref o)] := hl
  refine lv_aload_n hx hb dL_set_0 rfl (lv_at hl 3 rfl) ?_
  refine lv_iconst (v := 0) hx hb dL_set_1 (by decide) ?_
  refine lv_aload_n hx hb dL_set_2 rfl (lv_at hl 0 rfl) ?_
  refine lv_iload_n hx hb dL_set_3 rfl (lv_at hl 1 rfl) ?_
  refine lv_iload_n hx hb dL_set_4 rfl (lv_at hl 2 rfl) ?_
  refine kxV (wOut g o f) (List.perm_append_comm) C X hM (cw_L_set C) 0 (ci := 5) he rfl (As := [.int p1, .int p2]) rfl hl (rest := [.int 0, .ref o]) rfl (Nat.le_of_ble_eq_true rfl) (st2 := [.int v, .int 0, .ref o]) rfl dL_set_5 ⟨Nat.le_of_ble_eq_true rfl, Nat.le_of_ble_eq_true rfl⟩ (w3 := fun s => wOut g o f ++ w2 s) (fun _ => List.Perm.refl _) (fun t H locs X => ?_)
  refine lv_i2l (v := v.toInt64) hx hb dL_set_8 rfl ?_
  refine klast C X 0 rfl (i := 0) (by decide) (w2 := wOut g o (vp_updL f 0 v.toInt64) ++ w2 t) rfl dL_set_9 (fun H locs X => ?_)
  refine lv_goto (tgt := 21) hx hb dL_set_10 (by decide) ?_
  refine lv_iconst (v := 0) hx hb dL_set_21 (by decide) ?_
  exact keiret (w2 := fun s => wOut g o (vp_updL f 0 v.toInt64) ++ w2 s) t C X dL_set_22
abbrev rL_append : Room := { frames := 8, cells := 2, slots := 12, locals := 133 }
theorem cw_L_append {p : Program} {s : State} {m : MethodId} {args : Array Value} {meth : Method} {c : Code} {g : kG} {A : Nat → Prop} (C : CT g p s m args meth c RL cL_append 4 (some .int) wsL_append A) : CallW rL_append s args RL RX5 47 yX5_append cX5_append 2 (some .int) wsX5_append rX5_append 2 12 1 := cwV 1 C.2.2.2.2.2.1 gL_append_X5_append rfl rfl rfl (by decide +kernel) ⟨Nat.le_of_ble_eq_true rfl, Nat.le_of_ble_eq_true rfl⟩
theorem lk_L_append_0 : (Cond.classLink RL 13 (kEx 1)) ∈ wsL_append := by decide +kernel
theorem lk_L_append_1 : (Cond.classLink RL 15 (kEx 2)) ∈ wsL_append := by decide +kernel
set_option maxRecDepth 100000 in
set_option maxHeartbeats 4000000 in
theorem kLt_append_0 {S : Type} (l : Launch) (g : kG) (b o : Nat) (p1 : Int32) (fs : List Value) (wc : va_W) (he : wc[0]? = some (b, .inr (5, fs))) (f : Nat → Int64) (w2 : S → va_W) (hM : KX l yX5_append wsX5_append rX5_append g [.ref b, .int p1] wc (.inl (1, w2)) 2 12) : KE (S := S) l yL_append wsL_append rL_append g [.ref b, .int p1, .ref o] (wOut g o f ++ wc) (some (.int 1)) (fun s => wOut g o f ++ w2 s) 2 12 := by
  refine KE.ofH (nL := 4) (by decide) rfl (Nat.le_of_ble_eq_true rfl) ?_
  intro p e s m args below meth c A ls C htab X hl
  have C : CT g p s m args meth c RL cL_append 4 (some .int) wsL_append A := C
  have hx := C.1
  have hb := C.2.1
  have hl : lv_has ls 4 [(0, .ref b), (1, .int p1), (2, .ref o)] := hl
  refine lv_aload_n hx hb dL_append_0 rfl (lv_at hl 2 rfl) ?_
  refine lv_iconst (v := 0) hx hb dL_append_1 (by decide) ?_
  refine lv_aload_n hx hb dL_append_2 rfl (lv_at hl 0 rfl) ?_
  refine lv_iload_n hx hb dL_append_3 rfl (lv_at hl 1 rfl) ?_
  refine kxVc (wOut g o f) (List.perm_append_comm) C X hM (cw_L_append C) 0 (ci := 5) he rfl (As := [.int p1]) rfl hl (rest := [.int 0, .ref o]) rfl (Nat.le_of_ble_eq_true rfl) dL_append_4 ⟨Nat.le_of_ble_eq_true rfl, Nat.le_of_ble_eq_true rfl⟩ [] ⟨0, 9, 12, 13⟩ [⟨0, 9, 15, 15⟩] (by rw [htab]; rfl) (fun z hz => absurd hz List.not_mem_nil) (by decide) (by decide) lk_L_append_0 (by decide) (fun t q H locs X => ?_)
  refine lv_astore_n (lv' := [(3, .ref q), (0, .ref b), (1, .int p1), (2, .ref o)]) hx hb dL_append_12 rfl hl (by decide) rfl (fun ls hl => ?_)
  refine lv_iconst (v := 1) hx hb dL_append_13 (by decide) ?_
  exact keiret t C X dL_append_14
set_option maxRecDepth 100000 in
set_option maxHeartbeats 4000000 in
theorem kLt_append_1 {S : Type} (l : Launch) (g : kG) (b o : Nat) (p1 : Int32) (fs : List Value) (wc : va_W) (he : wc[0]? = some (b, .inr (5, fs))) (f : Nat → Int64) (w2 : S → va_W) (hM : KX l yX5_append wsX5_append rX5_append g [.ref b, .int p1] wc (.inl (2, w2)) 2 12) : KE (S := S) l yL_append wsL_append rL_append g [.ref b, .int p1, .ref o] (wOut g o f ++ wc) (some (.int 2)) (fun s => wOut g o f ++ w2 s) 2 12 := by
  refine KE.ofH (nL := 4) (by decide) rfl (Nat.le_of_ble_eq_true rfl) ?_
  intro p e s m args below meth c A ls C htab X hl
  have C : CT g p s m args meth c RL cL_append 4 (some .int) wsL_append A := C
  have hx := C.1
  have hb := C.2.1
  have hl : lv_has ls 4 [(0, .ref b), (1, .int p1), (2, .ref o)] := hl
  refine lv_aload_n hx hb dL_append_0 rfl (lv_at hl 2 rfl) ?_
  refine lv_iconst (v := 0) hx hb dL_append_1 (by decide) ?_
  refine lv_aload_n hx hb dL_append_2 rfl (lv_at hl 0 rfl) ?_
  refine lv_iload_n hx hb dL_append_3 rfl (lv_at hl 1 rfl) ?_
  refine kxVc (wOut g o f) (List.perm_append_comm) C X hM (cw_L_append C) 0 (ci := 5) he rfl (As := [.int p1]) rfl hl (rest := [.int 0, .ref o]) rfl (Nat.le_of_ble_eq_true rfl) dL_append_4 ⟨Nat.le_of_ble_eq_true rfl, Nat.le_of_ble_eq_true rfl⟩ [⟨0, 9, 12, 13⟩] ⟨0, 9, 15, 15⟩ [] (by rw [htab]; rfl) (List.forall_mem_cons.mpr ⟨⟨by decide, kEx 1, lk_L_append_0, by decide⟩, List.forall_mem_nil _⟩) (by decide) (by decide) lk_L_append_1 (by decide) (fun t q H locs X => ?_)
  refine lv_astore_n (lv' := [(3, .ref q), (0, .ref b), (1, .int p1), (2, .ref o)]) hx hb dL_append_15 rfl hl (by decide) rfl (fun ls hl => ?_)
  refine lv_iconst (v := 2) hx hb dL_append_16 (by decide) ?_
  exact keiret t C X dL_append_17
set_option maxRecDepth 100000 in
set_option maxHeartbeats 4000000 in
theorem kLr_append {S : Type} (l : Launch) (g : kG) (b o : Nat) (p1 : Int32) (fs : List Value) (wc : va_W) (he : wc[0]? = some (b, .inr (5, fs))) (f : Nat → Int64) (v : Int32) (w2 : S → va_W) (hM : KX l yX5_append wsX5_append rX5_append g [.ref b, .int p1] wc (.inr (some (.int v), w2)) 2 12) : KE (S := S) l yL_append wsL_append rL_append g [.ref b, .int p1, .ref o] (wOut g o f ++ wc) (some (.int 0)) (fun s => wOut g o (vp_updL f 0 v.toInt64) ++ w2 s) 2 12 := by
  refine KE.ofH (nL := 4) (by decide) rfl (Nat.le_of_ble_eq_true rfl) ?_
  intro p e s m args below meth c A ls C htab X hl
  have C : CT g p s m args meth c RL cL_append 4 (some .int) wsL_append A := C
  have hx := C.1
  have hb := C.2.1
  have hl : lv_has ls 4 [(0, .ref b), (1, .int p1), (2, .ref o)] := hl
  refine lv_aload_n hx hb dL_append_0 rfl (lv_at hl 2 rfl) ?_
  refine lv_iconst (v := 0) hx hb dL_append_1 (by decide) ?_
  refine lv_aload_n hx hb dL_append_2 rfl (lv_at hl 0 rfl) ?_
  refine lv_iload_n hx hb dL_append_3 rfl (lv_at hl 1 rfl) ?_
  refine kxV (wOut g o f) (List.perm_append_comm) C X hM (cw_L_append C) 0 (ci := 5) he rfl (As := [.int p1]) rfl hl (rest := [.int 0, .ref o]) rfl (Nat.le_of_ble_eq_true rfl) (st2 := [.int v, .int 0, .ref o]) rfl dL_append_4 ⟨Nat.le_of_ble_eq_true rfl, Nat.le_of_ble_eq_true rfl⟩ (w3 := fun s => wOut g o f ++ w2 s) (fun _ => List.Perm.refl _) (fun t H locs X => ?_)
  refine lv_i2l (v := v.toInt64) hx hb dL_append_7 rfl ?_
  refine klast C X 0 rfl (i := 0) (by decide) (w2 := wOut g o (vp_updL f 0 v.toInt64) ++ w2 t) rfl dL_append_8 (fun H locs X => ?_)
  refine lv_goto (tgt := 18) hx hb dL_append_9 (by decide) ?_
  refine lv_iconst (v := 0) hx hb dL_append_18 (by decide) ?_
  exact keiret (w2 := fun s => wOut g o (vp_updL f 0 v.toInt64) ++ w2 s) t C X dL_append_19
abbrev rL_undo : Room := { frames := 8, cells := 1, slots := 6, locals := 273 }
theorem cw_L_undo {p : Program} {s : State} {m : MethodId} {args : Array Value} {meth : Method} {c : Code} {g : kG} {A : Nat → Prop} (C : CT g p s m args meth c RL cL_undo 3 (some .int) wsL_undo A) : CallW rL_undo s args RL RX5 50 yX5_undo cX5_undo 1 (some .int) wsX5_undo rX5_undo 1 6 0 := cwV 0 C.2.2.2.2.2.1 gL_undo_X5_undo rfl rfl rfl (by decide +kernel) ⟨Nat.le_of_ble_eq_true rfl, Nat.le_of_ble_eq_true rfl⟩
theorem lk_L_undo_0 : (Cond.classLink RL 15 (kEx 2)) ∈ wsL_undo := by decide +kernel
set_option maxRecDepth 100000 in
set_option maxHeartbeats 4000000 in
theorem kLt_undo_0 {S : Type} (l : Launch) (g : kG) (b o : Nat) (fs : List Value) (wc : va_W) (he : wc[0]? = some (b, .inr (5, fs))) (f : Nat → Int64) (w2 : S → va_W) (hM : KX l yX5_undo wsX5_undo rX5_undo g [.ref b] wc (.inl (2, w2)) 1 6) : KE (S := S) l yL_undo wsL_undo rL_undo g [.ref b, .ref o] (wOut g o f ++ wc) (some (.int 1)) (fun s => wOut g o f ++ w2 s) 1 6 := by
  refine KE.ofH (nL := 3) (by decide) rfl (Nat.le_of_ble_eq_true rfl) ?_
  intro p e s m args below meth c A ls C htab X hl
  have C : CT g p s m args meth c RL cL_undo 3 (some .int) wsL_undo A := C
  have hx := C.1
  have hb := C.2.1
  have hl : lv_has ls 3 [(0, .ref b), (1, .ref o)] := hl
  refine lv_aload_n hx hb dL_undo_0 rfl (lv_at hl 1 rfl) ?_
  refine lv_iconst (v := 0) hx hb dL_undo_1 (by decide) ?_
  refine lv_aload_n hx hb dL_undo_2 rfl (lv_at hl 0 rfl) ?_
  refine kxVc (wOut g o f) (List.perm_append_comm) C X hM (cw_L_undo C) 0 (ci := 5) he rfl (As := []) rfl hl (rest := [.int 0, .ref o]) rfl (Nat.le_of_ble_eq_true rfl) dL_undo_3 ⟨Nat.le_of_ble_eq_true rfl, Nat.le_of_ble_eq_true rfl⟩ [] ⟨0, 8, 11, 15⟩ [] (by rw [htab]; rfl) (fun z hz => absurd hz List.not_mem_nil) (by decide) (by decide) lk_L_undo_0 (by decide) (fun t q H locs X => ?_)
  refine lv_astore_n (lv' := [(2, .ref q), (0, .ref b), (1, .ref o)]) hx hb dL_undo_11 rfl hl (by decide) rfl (fun ls hl => ?_)
  refine lv_iconst (v := 1) hx hb dL_undo_12 (by decide) ?_
  exact keiret t C X dL_undo_13
set_option maxRecDepth 100000 in
set_option maxHeartbeats 4000000 in
theorem kLr_undo {S : Type} (l : Launch) (g : kG) (b o : Nat) (fs : List Value) (wc : va_W) (he : wc[0]? = some (b, .inr (5, fs))) (f : Nat → Int64) (v : Int32) (w2 : S → va_W) (hM : KX l yX5_undo wsX5_undo rX5_undo g [.ref b] wc (.inr (some (.int v), w2)) 1 6) : KE (S := S) l yL_undo wsL_undo rL_undo g [.ref b, .ref o] (wOut g o f ++ wc) (some (.int 0)) (fun s => wOut g o (vp_updL f 0 v.toInt64) ++ w2 s) 1 6 := by
  refine KE.ofH (nL := 3) (by decide) rfl (Nat.le_of_ble_eq_true rfl) ?_
  intro p e s m args below meth c A ls C htab X hl
  have C : CT g p s m args meth c RL cL_undo 3 (some .int) wsL_undo A := C
  have hx := C.1
  have hb := C.2.1
  have hl : lv_has ls 3 [(0, .ref b), (1, .ref o)] := hl
  refine lv_aload_n hx hb dL_undo_0 rfl (lv_at hl 1 rfl) ?_
  refine lv_iconst (v := 0) hx hb dL_undo_1 (by decide) ?_
  refine lv_aload_n hx hb dL_undo_2 rfl (lv_at hl 0 rfl) ?_
  refine kxV (wOut g o f) (List.perm_append_comm) C X hM (cw_L_undo C) 0 (ci := 5) he rfl (As := []) rfl hl (rest := [.int 0, .ref o]) rfl (Nat.le_of_ble_eq_true rfl) (st2 := [.int v, .int 0, .ref o]) rfl dL_undo_3 ⟨Nat.le_of_ble_eq_true rfl, Nat.le_of_ble_eq_true rfl⟩ (w3 := fun s => wOut g o f ++ w2 s) (fun _ => List.Perm.refl _) (fun t H locs X => ?_)
  refine lv_i2l (v := v.toInt64) hx hb dL_undo_6 rfl ?_
  refine klast C X 0 rfl (i := 0) (by decide) (w2 := wOut g o (vp_updL f 0 v.toInt64) ++ w2 t) rfl dL_undo_7 (fun H locs X => ?_)
  refine lv_goto (tgt := 14) hx hb dL_undo_8 (by decide) ?_
  refine lv_iconst (v := 0) hx hb dL_undo_14 (by decide) ?_
  exact keiret (w2 := fun s => wOut g o (vp_updL f 0 v.toInt64) ++ w2 s) t C X dL_undo_15
abbrev rL_keep : Room := { frames := 7, cells := 13, slots := 389, locals := 172 }
theorem cw_L_keep {p : Program} {s : State} {m : MethodId} {args : Array Value} {meth : Method} {c : Code} {g : kG} {A : Nat → Prop} (C : CT g p s m args meth c RL cL_keep 4 (some .int) wsL_keep A) : CallW rL_keep s args RL RX5 53 yX5_keep cX5_keep 3 (some .int) wsX5_keep rX5_keep 13 389 1 := cwV 1 C.2.2.2.2.2.1 gL_keep_X5_keep rfl rfl rfl (by decide +kernel) ⟨Nat.le_of_ble_eq_true rfl, Nat.le_of_ble_eq_true rfl⟩
theorem lk_L_keep_0 : (Cond.classLink RL 13 (kEx 1)) ∈ wsL_keep := by decide +kernel
set_option maxRecDepth 100000 in
set_option maxHeartbeats 4000000 in
theorem kLt_keep_0 {S : Type} (l : Launch) (g : kG) (b o : Nat) (p1 : Int32) (fs : List Value) (wc : va_W) (he : wc[0]? = some (b, .inr (5, fs))) (f : Nat → Int64) (w2 : S → va_W) (hM : KX l yX5_keep wsX5_keep rX5_keep g [.ref b, .int p1] wc (.inl (1, w2)) 13 389) : KE (S := S) l yL_keep wsL_keep rL_keep g [.ref b, .int p1, .ref o] (wOut g o f ++ wc) (some (.int 1)) (fun s => wOut g o f ++ w2 s) 13 389 := by
  refine KE.ofH (nL := 4) (by decide) rfl (Nat.le_of_ble_eq_true rfl) ?_
  intro p e s m args below meth c A ls C htab X hl
  have C : CT g p s m args meth c RL cL_keep 4 (some .int) wsL_keep A := C
  have hx := C.1
  have hb := C.2.1
  have hl : lv_has ls 4 [(0, .ref b), (1, .int p1), (2, .ref o)] := hl
  refine lv_aload_n hx hb dL_keep_0 rfl (lv_at hl 2 rfl) ?_
  refine lv_iconst (v := 0) hx hb dL_keep_1 (by decide) ?_
  refine lv_aload_n hx hb dL_keep_2 rfl (lv_at hl 0 rfl) ?_
  refine lv_iload_n hx hb dL_keep_3 rfl (lv_at hl 1 rfl) ?_
  refine kxVc (wOut g o f) (List.perm_append_comm) C X hM (cw_L_keep C) 0 (ci := 5) he rfl (As := [.int p1]) rfl hl (rest := [.int 0, .ref o]) rfl (Nat.le_of_ble_eq_true rfl) dL_keep_4 ⟨Nat.le_of_ble_eq_true rfl, Nat.le_of_ble_eq_true rfl⟩ [] ⟨0, 9, 12, 13⟩ [] (by rw [htab]; rfl) (fun z hz => absurd hz List.not_mem_nil) (by decide) (by decide) lk_L_keep_0 (by decide) (fun t q H locs X => ?_)
  refine lv_astore_n (lv' := [(3, .ref q), (0, .ref b), (1, .int p1), (2, .ref o)]) hx hb dL_keep_12 rfl hl (by decide) rfl (fun ls hl => ?_)
  refine lv_iconst (v := 1) hx hb dL_keep_13 (by decide) ?_
  exact keiret t C X dL_keep_14
set_option maxRecDepth 100000 in
set_option maxHeartbeats 4000000 in
theorem kLr_keep {S : Type} (l : Launch) (g : kG) (b o : Nat) (p1 : Int32) (fs : List Value) (wc : va_W) (he : wc[0]? = some (b, .inr (5, fs))) (f : Nat → Int64) (v : Int32) (w2 : S → va_W) (hM : KX l yX5_keep wsX5_keep rX5_keep g [.ref b, .int p1] wc (.inr (some (.int v), w2)) 13 389) : KE (S := S) l yL_keep wsL_keep rL_keep g [.ref b, .int p1, .ref o] (wOut g o f ++ wc) (some (.int 0)) (fun s => wOut g o (vp_updL f 0 v.toInt64) ++ w2 s) 13 389 := by
  refine KE.ofH (nL := 4) (by decide) rfl (Nat.le_of_ble_eq_true rfl) ?_
  intro p e s m args below meth c A ls C htab X hl
  have C : CT g p s m args meth c RL cL_keep 4 (some .int) wsL_keep A := C
  have hx := C.1
  have hb := C.2.1
  have hl : lv_has ls 4 [(0, .ref b), (1, .int p1), (2, .ref o)] := hl
  refine lv_aload_n hx hb dL_keep_0 rfl (lv_at hl 2 rfl) ?_
  refine lv_iconst (v := 0) hx hb dL_keep_1 (by decide) ?_
  refine lv_aload_n hx hb dL_keep_2 rfl (lv_at hl 0 rfl) ?_
  refine lv_iload_n hx hb dL_keep_3 rfl (lv_at hl 1 rfl) ?_
  refine kxV (wOut g o f) (List.perm_append_comm) C X hM (cw_L_keep C) 0 (ci := 5) he rfl (As := [.int p1]) rfl hl (rest := [.int 0, .ref o]) rfl (Nat.le_of_ble_eq_true rfl) (st2 := [.int v, .int 0, .ref o]) rfl dL_keep_4 ⟨Nat.le_of_ble_eq_true rfl, Nat.le_of_ble_eq_true rfl⟩ (w3 := fun s => wOut g o f ++ w2 s) (fun _ => List.Perm.refl _) (fun t H locs X => ?_)
  refine lv_i2l (v := v.toInt64) hx hb dL_keep_7 rfl ?_
  refine klast C X 0 rfl (i := 0) (by decide) (w2 := wOut g o (vp_updL f 0 v.toInt64) ++ w2 t) rfl dL_keep_8 (fun H locs X => ?_)
  refine lv_goto (tgt := 15) hx hb dL_keep_9 (by decide) ?_
  refine lv_iconst (v := 0) hx hb dL_keep_15 (by decide) ?_
  exact keiret (w2 := fun s => wOut g o (vp_updL f 0 v.toInt64) ++ w2 s) t C X dL_keep_16
abbrev rL_goBack : Room := { frames := 8, cells := 14, slots := 395, locals := 275 }
theorem cw_L_goBack {p : Program} {s : State} {m : MethodId} {args : Array Value} {meth : Method} {c : Code} {g : kG} {A : Nat → Prop} (C : CT g p s m args meth c RL cL_goBack 4 (some .int) wsL_goBack A) : CallW rL_goBack s args RL RX5 56 yX5_goBack cX5_goBack 3 (some .int) wsX5_goBack rX5_goBack 14 395 1 := cwV 1 C.2.2.2.2.2.1 gL_goBack_X5_goBack rfl rfl rfl (by decide +kernel) ⟨Nat.le_of_ble_eq_true rfl, Nat.le_of_ble_eq_true rfl⟩
theorem lk_L_goBack_0 : (Cond.classLink RL 13 (kEx 1)) ∈ wsL_goBack := by decide +kernel
theorem lk_L_goBack_1 : (Cond.classLink RL 15 (kEx 2)) ∈ wsL_goBack := by decide +kernel
set_option maxRecDepth 100000 in
set_option maxHeartbeats 4000000 in
theorem kLt_goBack_0 {S : Type} (l : Launch) (g : kG) (b o : Nat) (p1 : Int32) (fs : List Value) (wc : va_W) (he : wc[0]? = some (b, .inr (5, fs))) (f : Nat → Int64) (w2 : S → va_W) (hM : KX l yX5_goBack wsX5_goBack rX5_goBack g [.ref b, .int p1] wc (.inl (1, w2)) 14 395) : KE (S := S) l yL_goBack wsL_goBack rL_goBack g [.ref b, .int p1, .ref o] (wOut g o f ++ wc) (some (.int 1)) (fun s => wOut g o f ++ w2 s) 14 395 := by
  refine KE.ofH (nL := 4) (by decide) rfl (Nat.le_of_ble_eq_true rfl) ?_
  intro p e s m args below meth c A ls C htab X hl
  have C : CT g p s m args meth c RL cL_goBack 4 (some .int) wsL_goBack A := C
  have hx := C.1
  have hb := C.2.1
  have hl : lv_has ls 4 [(0, .ref b), (1, .int p1), (2, .ref o)] := hl
  refine lv_aload_n hx hb dL_goBack_0 rfl (lv_at hl 2 rfl) ?_
  refine lv_iconst (v := 0) hx hb dL_goBack_1 (by decide) ?_
  refine lv_aload_n hx hb dL_goBack_2 rfl (lv_at hl 0 rfl) ?_
  refine lv_iload_n hx hb dL_goBack_3 rfl (lv_at hl 1 rfl) ?_
  refine kxVc (wOut g o f) (List.perm_append_comm) C X hM (cw_L_goBack C) 0 (ci := 5) he rfl (As := [.int p1]) rfl hl (rest := [.int 0, .ref o]) rfl (Nat.le_of_ble_eq_true rfl) dL_goBack_4 ⟨Nat.le_of_ble_eq_true rfl, Nat.le_of_ble_eq_true rfl⟩ [] ⟨0, 9, 12, 13⟩ [⟨0, 9, 15, 15⟩] (by rw [htab]; rfl) (fun z hz => absurd hz List.not_mem_nil) (by decide) (by decide) lk_L_goBack_0 (by decide) (fun t q H locs X => ?_)
  refine lv_astore_n (lv' := [(3, .ref q), (0, .ref b), (1, .int p1), (2, .ref o)]) hx hb dL_goBack_12 rfl hl (by decide) rfl (fun ls hl => ?_)
  refine lv_iconst (v := 1) hx hb dL_goBack_13 (by decide) ?_
  exact keiret t C X dL_goBack_14
set_option maxRecDepth 100000 in
set_option maxHeartbeats 4000000 in
theorem kLt_goBack_1 {S : Type} (l : Launch) (g : kG) (b o : Nat) (p1 : Int32) (fs : List Value) (wc : va_W) (he : wc[0]? = some (b, .inr (5, fs))) (f : Nat → Int64) (w2 : S → va_W) (hM : KX l yX5_goBack wsX5_goBack rX5_goBack g [.ref b, .int p1] wc (.inl (2, w2)) 14 395) : KE (S := S) l yL_goBack wsL_goBack rL_goBack g [.ref b, .int p1, .ref o] (wOut g o f ++ wc) (some (.int 2)) (fun s => wOut g o f ++ w2 s) 14 395 := by
  refine KE.ofH (nL := 4) (by decide) rfl (Nat.le_of_ble_eq_true rfl) ?_
  intro p e s m args below meth c A ls C htab X hl
  have C : CT g p s m args meth c RL cL_goBack 4 (some .int) wsL_goBack A := C
  have hx := C.1
  have hb := C.2.1
  have hl : lv_has ls 4 [(0, .ref b), (1, .int p1), (2, .ref o)] := hl
  refine lv_aload_n hx hb dL_goBack_0 rfl (lv_at hl 2 rfl) ?_
  refine lv_iconst (v := 0) hx hb dL_goBack_1 (by decide) ?_
  refine lv_aload_n hx hb dL_goBack_2 rfl (lv_at hl 0 rfl) ?_
  refine lv_iload_n hx hb dL_goBack_3 rfl (lv_at hl 1 rfl) ?_
  refine kxVc (wOut g o f) (List.perm_append_comm) C X hM (cw_L_goBack C) 0 (ci := 5) he rfl (As := [.int p1]) rfl hl (rest := [.int 0, .ref o]) rfl (Nat.le_of_ble_eq_true rfl) dL_goBack_4 ⟨Nat.le_of_ble_eq_true rfl, Nat.le_of_ble_eq_true rfl⟩ [⟨0, 9, 12, 13⟩] ⟨0, 9, 15, 15⟩ [] (by rw [htab]; rfl) (List.forall_mem_cons.mpr ⟨⟨by decide, kEx 1, lk_L_goBack_0, by decide⟩, List.forall_mem_nil _⟩) (by decide) (by decide) lk_L_goBack_1 (by decide) (fun t q H locs X => ?_)
  refine lv_astore_n (lv' := [(3, .ref q), (0, .ref b), (1, .int p1), (2, .ref o)]) hx hb dL_goBack_15 rfl hl (by decide) rfl (fun ls hl => ?_)
  refine lv_iconst (v := 2) hx hb dL_goBack_16 (by decide) ?_
  exact keiret t C X dL_goBack_17
set_option maxRecDepth 100000 in
set_option maxHeartbeats 4000000 in
theorem kLr_goBack {S : Type} (l : Launch) (g : kG) (b o : Nat) (p1 : Int32) (fs : List Value) (wc : va_W) (he : wc[0]? = some (b, .inr (5, fs))) (f : Nat → Int64) (v : Int32) (w2 : S → va_W) (hM : KX l yX5_goBack wsX5_goBack rX5_goBack g [.ref b, .int p1] wc (.inr (some (.int v), w2)) 14 395) : KE (S := S) l yL_goBack wsL_goBack rL_goBack g [.ref b, .int p1, .ref o] (wOut g o f ++ wc) (some (.int 0)) (fun s => wOut g o (vp_updL f 0 v.toInt64) ++ w2 s) 14 395 := by
  refine KE.ofH (nL := 4) (by decide) rfl (Nat.le_of_ble_eq_true rfl) ?_
  intro p e s m args below meth c A ls C htab X hl
  have C : CT g p s m args meth c RL cL_goBack 4 (some .int) wsL_goBack A := C
  have hx := C.1
  have hb := C.2.1
  have hl : lv_has ls 4 [(0, .ref b), (1, .int p1), (2, .ref o)] := hl
  refine lv_aload_n hx hb dL_goBack_0 rfl (lv_at hl 2 rfl) ?_
  refine lv_iconst (v := 0) hx hb dL_goBack_1 (by decide) ?_
  refine lv_aload_n hx hb dL_goBack_2 rfl (lv_at hl 0 rfl) ?_
  refine lv_iload_n hx hb dL_goBack_3 rfl (lv_at hl 1 rfl) ?_
  refine kxV (wOut g o f) (List.perm_append_comm) C X hM (cw_L_goBack C) 0 (ci := 5) he rfl (As := [.int p1]) rfl hl (rest := [.int 0, .ref o]) rfl (Nat.le_of_ble_eq_true rfl) (st2 := [.int v, .int 0, .ref o]) rfl dL_goBack_4 ⟨Nat.le_of_ble_eq_true rfl, Nat.le_of_ble_eq_true rfl⟩ (w3 := fun s => wOut g o f ++ w2 s) (fun _ => List.Perm.refl _) (fun t H locs X => ?_)
  refine lv_i2l (v := v.toInt64) hx hb dL_goBack_7 rfl ?_
  refine klast C X 0 rfl (i := 0) (by decide) (w2 := wOut g o (vp_updL f 0 v.toInt64) ++ w2 t) rfl dL_goBack_8 (fun H locs X => ?_)
  refine lv_goto (tgt := 18) hx hb dL_goBack_9 (by decide) ?_
  refine lv_iconst (v := 0) hx hb dL_goBack_18 (by decide) ?_
  exact keiret (w2 := fun s => wOut g o (vp_updL f 0 v.toInt64) ++ w2 s) t C X dL_goBack_19
abbrev rL_point : Room := { frames := 9, cells := 3, slots := 18, locals := 156 }
theorem cw_L_point {p : Program} {s : State} {m : MethodId} {args : Array Value} {meth : Method} {c : Code} {g : kG} {A : Nat → Prop} (C : CT g p s m args meth c RL cL_point 6 (some .int) wsL_point A) : CallW rL_point s args RL RX5 59 yX5_point cX5_point 5 (some .int) wsX5_point rX5_point 3 18 3 := cwV 3 C.2.2.2.2.2.1 gL_point_X5_point rfl rfl rfl (by decide +kernel) ⟨Nat.le_of_ble_eq_true rfl, Nat.le_of_ble_eq_true rfl⟩
theorem lk_L_point_0 : (Cond.classLink RL 25 (kEx 0)) ∈ wsL_point := by decide +kernel
theorem lk_L_point_1 : (Cond.classLink RL 13 (kEx 1)) ∈ wsL_point := by decide +kernel
set_option maxRecDepth 100000 in
set_option maxHeartbeats 4000000 in
theorem kLt_point_0 {S : Type} (l : Launch) (g : kG) (b o : Nat) (p1 : Int32) (p2 : Int32) (p3 : Int32) (fs : List Value) (wc : va_W) (he : wc[0]? = some (b, .inr (5, fs))) (f : Nat → Int64) (w2 : S → va_W) (hM : KX l yX5_point wsX5_point rX5_point g [.ref b, .int p1, .int p2, .int p3] wc (.inl (0, w2)) 3 18) : KE (S := S) l yL_point wsL_point rL_point g [.ref b, .int p1, .int p2, .int p3, .ref o] (wOut g o f ++ wc) (some (.int 1)) (fun s => wOut g o f ++ w2 s) 3 18 := by
  refine KE.ofH (nL := 6) (by decide) rfl (Nat.le_of_ble_eq_true rfl) ?_
  intro p e s m args below meth c A ls C htab X hl
  have C : CT g p s m args meth c RL cL_point 6 (some .int) wsL_point A := C
  have hx := C.1
  have hb := C.2.1
  have hl : lv_has ls 6 [(0, .ref b), (1, .int p1), (2, .int p2), (3, .int p3), (4, .ref o)] := hl
  refine lv_aload hx hb dL_point_0 (lv_at hl 4 rfl) ?_
  refine lv_iconst (v := 0) hx hb dL_point_2 (by decide) ?_
  refine lv_aload_n hx hb dL_point_3 rfl (lv_at hl 0 rfl) ?_
  refine lv_iload_n hx hb dL_point_4 rfl (lv_at hl 1 rfl) ?_
  refine lv_iload_n hx hb dL_point_5 rfl (lv_at hl 2 rfl) ?_
  refine lv_iload_n hx hb dL_point_6 rfl (lv_at hl 3 rfl) ?_
  refine kxVc (wOut g o f) (List.perm_append_comm) C X hM (cw_L_point C) 0 (ci := 5) he rfl (As := [.int p1, .int p2, .int p3]) rfl hl (rest := [.int 0, .ref o]) rfl (Nat.le_of_ble_eq_true rfl) dL_point_7 ⟨Nat.le_of_ble_eq_true rfl, Nat.le_of_ble_eq_true rfl⟩ [] ⟨0, 12, 15, 25⟩ [⟨0, 12, 19, 13⟩] (by rw [htab]; rfl) (fun z hz => absurd hz List.not_mem_nil) (by decide) (by decide) lk_L_point_0 (by decide) (fun t q H locs X => ?_)
  refine lv_astore (lv' := [(5, .ref q), (0, .ref b), (1, .int p1), (2, .int p2), (3, .int p3), (4, .ref o)]) hx hb dL_point_15 hl (by decide) rfl (fun ls hl => ?_)
  refine lv_iconst (v := 1) hx hb dL_point_17 (by decide) ?_
  exact keiret t C X dL_point_18
set_option maxRecDepth 100000 in
set_option maxHeartbeats 4000000 in
theorem kLt_point_1 {S : Type} (l : Launch) (g : kG) (b o : Nat) (p1 : Int32) (p2 : Int32) (p3 : Int32) (fs : List Value) (wc : va_W) (he : wc[0]? = some (b, .inr (5, fs))) (f : Nat → Int64) (w2 : S → va_W) (hM : KX l yX5_point wsX5_point rX5_point g [.ref b, .int p1, .int p2, .int p3] wc (.inl (1, w2)) 3 18) : KE (S := S) l yL_point wsL_point rL_point g [.ref b, .int p1, .int p2, .int p3, .ref o] (wOut g o f ++ wc) (some (.int 2)) (fun s => wOut g o f ++ w2 s) 3 18 := by
  refine KE.ofH (nL := 6) (by decide) rfl (Nat.le_of_ble_eq_true rfl) ?_
  intro p e s m args below meth c A ls C htab X hl
  have C : CT g p s m args meth c RL cL_point 6 (some .int) wsL_point A := C
  have hx := C.1
  have hb := C.2.1
  have hl : lv_has ls 6 [(0, .ref b), (1, .int p1), (2, .int p2), (3, .int p3), (4, .ref o)] := hl
  refine lv_aload hx hb dL_point_0 (lv_at hl 4 rfl) ?_
  refine lv_iconst (v := 0) hx hb dL_point_2 (by decide) ?_
  refine lv_aload_n hx hb dL_point_3 rfl (lv_at hl 0 rfl) ?_
  refine lv_iload_n hx hb dL_point_4 rfl (lv_at hl 1 rfl) ?_
  refine lv_iload_n hx hb dL_point_5 rfl (lv_at hl 2 rfl) ?_
  refine lv_iload_n hx hb dL_point_6 rfl (lv_at hl 3 rfl) ?_
  refine kxVc (wOut g o f) (List.perm_append_comm) C X hM (cw_L_point C) 0 (ci := 5) he rfl (As := [.int p1, .int p2, .int p3]) rfl hl (rest := [.int 0, .ref o]) rfl (Nat.le_of_ble_eq_true rfl) dL_point_7 ⟨Nat.le_of_ble_eq_true rfl, Nat.le_of_ble_eq_true rfl⟩ [⟨0, 12, 15, 25⟩] ⟨0, 12, 19, 13⟩ [] (by rw [htab]; rfl) (List.forall_mem_cons.mpr ⟨⟨by decide, kEx 0, lk_L_point_0, by decide⟩, List.forall_mem_nil _⟩) (by decide) (by decide) lk_L_point_1 (by decide) (fun t q H locs X => ?_)
  refine lv_astore (lv' := [(5, .ref q), (0, .ref b), (1, .int p1), (2, .int p2), (3, .int p3), (4, .ref o)]) hx hb dL_point_19 hl (by decide) rfl (fun ls hl => ?_)
  refine lv_iconst (v := 2) hx hb dL_point_21 (by decide) ?_
  exact keiret t C X dL_point_22
set_option maxRecDepth 100000 in
set_option maxHeartbeats 4000000 in
theorem kLr_point {S : Type} (l : Launch) (g : kG) (b o : Nat) (p1 : Int32) (p2 : Int32) (p3 : Int32) (fs : List Value) (wc : va_W) (he : wc[0]? = some (b, .inr (5, fs))) (f : Nat → Int64) (v : Int32) (w2 : S → va_W) (hM : KX l yX5_point wsX5_point rX5_point g [.ref b, .int p1, .int p2, .int p3] wc (.inr (some (.int v), w2)) 3 18) : KE (S := S) l yL_point wsL_point rL_point g [.ref b, .int p1, .int p2, .int p3, .ref o] (wOut g o f ++ wc) (some (.int 0)) (fun s => wOut g o (vp_updL f 0 v.toInt64) ++ w2 s) 3 18 := by
  refine KE.ofH (nL := 6) (by decide) rfl (Nat.le_of_ble_eq_true rfl) ?_
  intro p e s m args below meth c A ls C htab X hl
  have C : CT g p s m args meth c RL cL_point 6 (some .int) wsL_point A := C
  have hx := C.1
  have hb := C.2.1
  have hl : lv_has ls 6 [(0, .ref b), (1, .int p1), (2, .int p2), (3, .int p3), (4, .ref o)] := hl
  refine lv_aload hx hb dL_point_0 (lv_at hl 4 rfl) ?_
  refine lv_iconst (v := 0) hx hb dL_point_2 (by decide) ?_
  refine lv_aload_n hx hb dL_point_3 rfl (lv_at hl 0 rfl) ?_
  refine lv_iload_n hx hb dL_point_4 rfl (lv_at hl 1 rfl) ?_
  refine lv_iload_n hx hb dL_point_5 rfl (lv_at hl 2 rfl) ?_
  refine lv_iload_n hx hb dL_point_6 rfl (lv_at hl 3 rfl) ?_
  refine kxV (wOut g o f) (List.perm_append_comm) C X hM (cw_L_point C) 0 (ci := 5) he rfl (As := [.int p1, .int p2, .int p3]) rfl hl (rest := [.int 0, .ref o]) rfl (Nat.le_of_ble_eq_true rfl) (st2 := [.int v, .int 0, .ref o]) rfl dL_point_7 ⟨Nat.le_of_ble_eq_true rfl, Nat.le_of_ble_eq_true rfl⟩ (w3 := fun s => wOut g o f ++ w2 s) (fun _ => List.Perm.refl _) (fun t H locs X => ?_)
  refine lv_i2l (v := v.toInt64) hx hb dL_point_10 rfl ?_
  refine klast C X 0 rfl (i := 0) (by decide) (w2 := wOut g o (vp_updL f 0 v.toInt64) ++ w2 t) rfl dL_point_11 (fun H locs X => ?_)
  refine lv_goto (tgt := 23) hx hb dL_point_12 (by decide) ?_
  refine lv_iconst (v := 0) hx hb dL_point_23 (by decide) ?_
  exact keiret (w2 := fun s => wOut g o (vp_updL f 0 v.toInt64) ++ w2 s) t C X dL_point_24
abbrev rL_strokeOf : Room := { frames := 9, cells := 2, slots := 12, locals := 163 }
theorem cw_L_strokeOf {p : Program} {s : State} {m : MethodId} {args : Array Value} {meth : Method} {c : Code} {g : kG} {A : Nat → Prop} (C : CT g p s m args meth c RL cL_strokeOf 5 (some .int) wsL_strokeOf A) : CallW rL_strokeOf s args RL RX5 63 yX5_strokeOf cX5_strokeOf 4 (some .int) wsX5_strokeOf rX5_strokeOf 2 12 2 := cwV 2 C.2.2.2.2.2.1 gL_strokeOf_X5_strokeOf rfl rfl rfl (by decide +kernel) ⟨Nat.le_of_ble_eq_true rfl, Nat.le_of_ble_eq_true rfl⟩
theorem lk_L_strokeOf_0 : (Cond.classLink RL 25 (kEx 0)) ∈ wsL_strokeOf := by decide +kernel
theorem lk_L_strokeOf_1 : (Cond.classLink RL 13 (kEx 1)) ∈ wsL_strokeOf := by decide +kernel
set_option maxRecDepth 100000 in
set_option maxHeartbeats 4000000 in
theorem kLt_strokeOf_0 {S : Type} (l : Launch) (g : kG) (b o : Nat) (p1 : Int32) (p2 : Int32) (fs : List Value) (wc : va_W) (he : wc[0]? = some (b, .inr (5, fs))) (f : Nat → Int64) (w2 : S → va_W) (hM : KX l yX5_strokeOf wsX5_strokeOf rX5_strokeOf g [.ref b, .int p1, .int p2] wc (.inl (0, w2)) 2 12) : KE (S := S) l yL_strokeOf wsL_strokeOf rL_strokeOf g [.ref b, .int p1, .int p2, .ref o] (wOut g o f ++ wc) (some (.int 1)) (fun s => wOut g o f ++ w2 s) 2 12 := by
  refine KE.ofH (nL := 5) (by decide) rfl (Nat.le_of_ble_eq_true rfl) ?_
  intro p e s m args below meth c A ls C htab X hl
  have C : CT g p s m args meth c RL cL_strokeOf 5 (some .int) wsL_strokeOf A := C
  have hx := C.1
  have hb := C.2.1
  have hl : lv_has ls 5 [(0, .ref b), (1, .int p1), (2, .int p2), (3, .ref o)] := hl
  refine lv_aload_n hx hb dL_strokeOf_0 rfl (lv_at hl 3 rfl) ?_
  refine lv_iconst (v := 0) hx hb dL_strokeOf_1 (by decide) ?_
  refine lv_aload_n hx hb dL_strokeOf_2 rfl (lv_at hl 0 rfl) ?_
  refine lv_iload_n hx hb dL_strokeOf_3 rfl (lv_at hl 1 rfl) ?_
  refine lv_iload_n hx hb dL_strokeOf_4 rfl (lv_at hl 2 rfl) ?_
  refine kxVc (wOut g o f) (List.perm_append_comm) C X hM (cw_L_strokeOf C) 0 (ci := 5) he rfl (As := [.int p1, .int p2]) rfl hl (rest := [.int 0, .ref o]) rfl (Nat.le_of_ble_eq_true rfl) dL_strokeOf_5 ⟨Nat.le_of_ble_eq_true rfl, Nat.le_of_ble_eq_true rfl⟩ [] ⟨0, 10, 13, 25⟩ [⟨0, 10, 17, 13⟩] (by rw [htab]; rfl) (fun z hz => absurd hz List.not_mem_nil) (by decide) (by decide) lk_L_strokeOf_0 (by decide) (fun t q H locs X => ?_)
  refine lv_astore (lv' := [(4, .ref q), (0, .ref b), (1, .int p1), (2, .int p2), (3, .ref o)]) hx hb dL_strokeOf_13 hl (by decide) rfl (fun ls hl => ?_)
  refine lv_iconst (v := 1) hx hb dL_strokeOf_15 (by decide) ?_
  exact keiret t C X dL_strokeOf_16
set_option maxRecDepth 100000 in
set_option maxHeartbeats 4000000 in
theorem kLt_strokeOf_1 {S : Type} (l : Launch) (g : kG) (b o : Nat) (p1 : Int32) (p2 : Int32) (fs : List Value) (wc : va_W) (he : wc[0]? = some (b, .inr (5, fs))) (f : Nat → Int64) (w2 : S → va_W) (hM : KX l yX5_strokeOf wsX5_strokeOf rX5_strokeOf g [.ref b, .int p1, .int p2] wc (.inl (1, w2)) 2 12) : KE (S := S) l yL_strokeOf wsL_strokeOf rL_strokeOf g [.ref b, .int p1, .int p2, .ref o] (wOut g o f ++ wc) (some (.int 2)) (fun s => wOut g o f ++ w2 s) 2 12 := by
  refine KE.ofH (nL := 5) (by decide) rfl (Nat.le_of_ble_eq_true rfl) ?_
  intro p e s m args below meth c A ls C htab X hl
  have C : CT g p s m args meth c RL cL_strokeOf 5 (some .int) wsL_strokeOf A := C
  have hx := C.1
  have hb := C.2.1
  have hl : lv_has ls 5 [(0, .ref b), (1, .int p1), (2, .int p2), (3, .ref o)] := hl
  refine lv_aload_n hx hb dL_strokeOf_0 rfl (lv_at hl 3 rfl) ?_
  refine lv_iconst (v := 0) hx hb dL_strokeOf_1 (by decide) ?_
  refine lv_aload_n hx hb dL_strokeOf_2 rfl (lv_at hl 0 rfl) ?_
  refine lv_iload_n hx hb dL_strokeOf_3 rfl (lv_at hl 1 rfl) ?_
  refine lv_iload_n hx hb dL_strokeOf_4 rfl (lv_at hl 2 rfl) ?_
  refine kxVc (wOut g o f) (List.perm_append_comm) C X hM (cw_L_strokeOf C) 0 (ci := 5) he rfl (As := [.int p1, .int p2]) rfl hl (rest := [.int 0, .ref o]) rfl (Nat.le_of_ble_eq_true rfl) dL_strokeOf_5 ⟨Nat.le_of_ble_eq_true rfl, Nat.le_of_ble_eq_true rfl⟩ [⟨0, 10, 13, 25⟩] ⟨0, 10, 17, 13⟩ [] (by rw [htab]; rfl) (List.forall_mem_cons.mpr ⟨⟨by decide, kEx 0, lk_L_strokeOf_0, by decide⟩, List.forall_mem_nil _⟩) (by decide) (by decide) lk_L_strokeOf_1 (by decide) (fun t q H locs X => ?_)
  refine lv_astore (lv' := [(4, .ref q), (0, .ref b), (1, .int p1), (2, .int p2), (3, .ref o)]) hx hb dL_strokeOf_17 hl (by decide) rfl (fun ls hl => ?_)
  refine lv_iconst (v := 2) hx hb dL_strokeOf_19 (by decide) ?_
  exact keiret t C X dL_strokeOf_20
set_option maxRecDepth 100000 in
set_option maxHeartbeats 4000000 in
theorem kLr_strokeOf {S : Type} (l : Launch) (g : kG) (b o : Nat) (p1 : Int32) (p2 : Int32) (fs : List Value) (wc : va_W) (he : wc[0]? = some (b, .inr (5, fs))) (f : Nat → Int64) (v : Int32) (w2 : S → va_W) (hM : KX l yX5_strokeOf wsX5_strokeOf rX5_strokeOf g [.ref b, .int p1, .int p2] wc (.inr (some (.int v), w2)) 2 12) : KE (S := S) l yL_strokeOf wsL_strokeOf rL_strokeOf g [.ref b, .int p1, .int p2, .ref o] (wOut g o f ++ wc) (some (.int 0)) (fun s => wOut g o (vp_updL f 0 v.toInt64) ++ w2 s) 2 12 := by
  refine KE.ofH (nL := 5) (by decide) rfl (Nat.le_of_ble_eq_true rfl) ?_
  intro p e s m args below meth c A ls C htab X hl
  have C : CT g p s m args meth c RL cL_strokeOf 5 (some .int) wsL_strokeOf A := C
  have hx := C.1
  have hb := C.2.1
  have hl : lv_has ls 5 [(0, .ref b), (1, .int p1), (2, .int p2), (3, .ref o)] := hl
  refine lv_aload_n hx hb dL_strokeOf_0 rfl (lv_at hl 3 rfl) ?_
  refine lv_iconst (v := 0) hx hb dL_strokeOf_1 (by decide) ?_
  refine lv_aload_n hx hb dL_strokeOf_2 rfl (lv_at hl 0 rfl) ?_
  refine lv_iload_n hx hb dL_strokeOf_3 rfl (lv_at hl 1 rfl) ?_
  refine lv_iload_n hx hb dL_strokeOf_4 rfl (lv_at hl 2 rfl) ?_
  refine kxV (wOut g o f) (List.perm_append_comm) C X hM (cw_L_strokeOf C) 0 (ci := 5) he rfl (As := [.int p1, .int p2]) rfl hl (rest := [.int 0, .ref o]) rfl (Nat.le_of_ble_eq_true rfl) (st2 := [.int v, .int 0, .ref o]) rfl dL_strokeOf_5 ⟨Nat.le_of_ble_eq_true rfl, Nat.le_of_ble_eq_true rfl⟩ (w3 := fun s => wOut g o f ++ w2 s) (fun _ => List.Perm.refl _) (fun t H locs X => ?_)
  refine lv_i2l (v := v.toInt64) hx hb dL_strokeOf_8 rfl ?_
  refine klast C X 0 rfl (i := 0) (by decide) (w2 := wOut g o (vp_updL f 0 v.toInt64) ++ w2 t) rfl dL_strokeOf_9 (fun H locs X => ?_)
  refine lv_goto (tgt := 21) hx hb dL_strokeOf_10 (by decide) ?_
  refine lv_iconst (v := 0) hx hb dL_strokeOf_21 (by decide) ?_
  exact keiret (w2 := fun s => wOut g o (vp_updL f 0 v.toInt64) ++ w2 s) t C X dL_strokeOf_22
abbrev rL_distance : Room := { frames := 9, cells := 4, slots := 24, locals := 157 }
theorem cw_L_distance {p : Program} {s : State} {m : MethodId} {args : Array Value} {meth : Method} {c : Code} {g : kG} {A : Nat → Prop} (C : CT g p s m args meth c RL cL_distance 7 (some .int) wsL_distance A) : CallW rL_distance s args RL RX5 66 yX5_distance cX5_distance 6 (some .int) wsX5_distance rX5_distance 4 24 4 := cwV 4 C.2.2.2.2.2.1 gL_distance_X5_distance rfl rfl rfl (by decide +kernel) ⟨Nat.le_of_ble_eq_true rfl, Nat.le_of_ble_eq_true rfl⟩
theorem lk_L_distance_0 : (Cond.classLink RL 25 (kEx 0)) ∈ wsL_distance := by decide +kernel
set_option maxRecDepth 100000 in
set_option maxHeartbeats 4000000 in
theorem kLt_distance_0 {S : Type} (l : Launch) (g : kG) (b o : Nat) (p1 : Int32) (p2 : Int32) (p3 : Int32) (p4 : Int32) (fs : List Value) (wc : va_W) (he : wc[0]? = some (b, .inr (5, fs))) (f : Nat → Int64) (w2 : S → va_W) (hM : KX l yX5_distance wsX5_distance rX5_distance g [.ref b, .int p1, .int p2, .int p3, .int p4] wc (.inl (0, w2)) 4 24) : KE (S := S) l yL_distance wsL_distance rL_distance g [.ref b, .int p1, .int p2, .int p3, .int p4, .ref o] (wOut g o f ++ wc) (some (.int 1)) (fun s => wOut g o f ++ w2 s) 4 24 := by
  refine KE.ofH (nL := 7) (by decide) rfl (Nat.le_of_ble_eq_true rfl) ?_
  intro p e s m args below meth c A ls C htab X hl
  have C : CT g p s m args meth c RL cL_distance 7 (some .int) wsL_distance A := C
  have hx := C.1
  have hb := C.2.1
  have hl : lv_has ls 7 [(0, .ref b), (1, .int p1), (2, .int p2), (3, .int p3), (4, .int p4), (5, .ref o)] := hl
  refine lv_aload hx hb dL_distance_0 (lv_at hl 5 rfl) ?_
  refine lv_iconst (v := 0) hx hb dL_distance_2 (by decide) ?_
  refine lv_aload_n hx hb dL_distance_3 rfl (lv_at hl 0 rfl) ?_
  refine lv_iload_n hx hb dL_distance_4 rfl (lv_at hl 1 rfl) ?_
  refine lv_iload_n hx hb dL_distance_5 rfl (lv_at hl 2 rfl) ?_
  refine lv_iload_n hx hb dL_distance_6 rfl (lv_at hl 3 rfl) ?_
  refine lv_iload hx hb dL_distance_7 (lv_at hl 4 rfl) ?_
  refine kxVc (wOut g o f) (List.perm_append_comm) C X hM (cw_L_distance C) 0 (ci := 5) he rfl (As := [.int p1, .int p2, .int p3, .int p4]) rfl hl (rest := [.int 0, .ref o]) rfl (Nat.le_of_ble_eq_true rfl) dL_distance_9 ⟨Nat.le_of_ble_eq_true rfl, Nat.le_of_ble_eq_true rfl⟩ [] ⟨0, 14, 17, 25⟩ [] (by rw [htab]; rfl) (fun z hz => absurd hz List.not_mem_nil) (by decide) (by decide) lk_L_distance_0 (by decide) (fun t q H locs X => ?_)
  refine lv_astore (lv' := [(6, .ref q), (0, .ref b), (1, .int p1), (2, .int p2), (3, .int p3), (4, .int p4), (5, .ref o)]) hx hb dL_distance_17 hl (by decide) rfl (fun ls hl => ?_)
  refine lv_iconst (v := 1) hx hb dL_distance_19 (by decide) ?_
  exact keiret t C X dL_distance_20
set_option maxRecDepth 100000 in
set_option maxHeartbeats 4000000 in
theorem kLr_distance {S : Type} (l : Launch) (g : kG) (b o : Nat) (p1 : Int32) (p2 : Int32) (p3 : Int32) (p4 : Int32) (fs : List Value) (wc : va_W) (he : wc[0]? = some (b, .inr (5, fs))) (f : Nat → Int64) (v : Int32) (w2 : S → va_W) (hM : KX l yX5_distance wsX5_distance rX5_distance g [.ref b, .int p1, .int p2, .int p3, .int p4] wc (.inr (some (.int v), w2)) 4 24) : KE (S := S) l yL_distance wsL_distance rL_distance g [.ref b, .int p1, .int p2, .int p3, .int p4, .ref o] (wOut g o f ++ wc) (some (.int 0)) (fun s => wOut g o (vp_updL f 0 v.toInt64) ++ w2 s) 4 24 := by
  refine KE.ofH (nL := 7) (by decide) rfl (Nat.le_of_ble_eq_true rfl) ?_
  intro p e s m args below meth c A ls C htab X hl
  have C : CT g p s m args meth c RL cL_distance 7 (some .int) wsL_distance A := C
  have hx := C.1
  have hb := C.2.1
  have hl : lv_has ls 7 [(0, .ref b), (1, .int p1), (2, .int p2), (3, .int p3), (4, .int p4), (5, .ref o)] := hl
  refine lv_aload hx hb dL_distance_0 (lv_at hl 5 rfl) ?_
  refine lv_iconst (v := 0) hx hb dL_distance_2 (by decide) ?_
  refine lv_aload_n hx hb dL_distance_3 rfl (lv_at hl 0 rfl) ?_
  refine lv_iload_n hx hb dL_distance_4 rfl (lv_at hl 1 rfl) ?_
  refine lv_iload_n hx hb dL_distance_5 rfl (lv_at hl 2 rfl) ?_
  refine lv_iload_n hx hb dL_distance_6 rfl (lv_at hl 3 rfl) ?_
  refine lv_iload hx hb dL_distance_7 (lv_at hl 4 rfl) ?_
  refine kxV (wOut g o f) (List.perm_append_comm) C X hM (cw_L_distance C) 0 (ci := 5) he rfl (As := [.int p1, .int p2, .int p3, .int p4]) rfl hl (rest := [.int 0, .ref o]) rfl (Nat.le_of_ble_eq_true rfl) (st2 := [.int v, .int 0, .ref o]) rfl dL_distance_9 ⟨Nat.le_of_ble_eq_true rfl, Nat.le_of_ble_eq_true rfl⟩ (w3 := fun s => wOut g o f ++ w2 s) (fun _ => List.Perm.refl _) (fun t H locs X => ?_)
  refine lv_i2l (v := v.toInt64) hx hb dL_distance_12 rfl ?_
  refine klast C X 0 rfl (i := 0) (by decide) (w2 := wOut g o (vp_updL f 0 v.toInt64) ++ w2 t) rfl dL_distance_13 (fun H locs X => ?_)
  refine lv_goto (tgt := 21) hx hb dL_distance_14 (by decide) ?_
  refine lv_iconst (v := 0) hx hb dL_distance_21 (by decide) ?_
  exact keiret (w2 := fun s => wOut g o (vp_updL f 0 v.toInt64) ++ w2 s) t C X dL_distance_22
abbrev rL_crossings : Room := { frames := 9, cells := 1, slots := 6, locals := 164 }
theorem cw_L_crossings {p : Program} {s : State} {m : MethodId} {args : Array Value} {meth : Method} {c : Code} {g : kG} {A : Nat → Prop} (C : CT g p s m args meth c RL cL_crossings 4 (some .int) wsL_crossings A) : CallW rL_crossings s args RL RX5 69 yX5_crossings cX5_crossings 2 (some .int) wsX5_crossings rX5_crossings 1 6 1 := cwV 1 C.2.2.2.2.2.1 gL_crossings_X5_crossings rfl rfl rfl (by decide +kernel) ⟨Nat.le_of_ble_eq_true rfl, Nat.le_of_ble_eq_true rfl⟩
theorem lk_L_crossings_0 : (Cond.classLink RL 25 (kEx 0)) ∈ wsL_crossings := by decide +kernel
set_option maxRecDepth 100000 in
set_option maxHeartbeats 4000000 in
theorem kLt_crossings_0 {S : Type} (l : Launch) (g : kG) (b o : Nat) (p1 : Int32) (fs : List Value) (wc : va_W) (he : wc[0]? = some (b, .inr (5, fs))) (f : Nat → Int64) (w2 : S → va_W) (hM : KX l yX5_crossings wsX5_crossings rX5_crossings g [.ref b, .int p1] wc (.inl (0, w2)) 1 6) : KE (S := S) l yL_crossings wsL_crossings rL_crossings g [.ref b, .int p1, .ref o] (wOut g o f ++ wc) (some (.int 1)) (fun s => wOut g o f ++ w2 s) 1 6 := by
  refine KE.ofH (nL := 4) (by decide) rfl (Nat.le_of_ble_eq_true rfl) ?_
  intro p e s m args below meth c A ls C htab X hl
  have C : CT g p s m args meth c RL cL_crossings 4 (some .int) wsL_crossings A := C
  have hx := C.1
  have hb := C.2.1
  have hl : lv_has ls 4 [(0, .ref b), (1, .int p1), (2, .ref o)] := hl
  refine lv_aload_n hx hb dL_crossings_0 rfl (lv_at hl 2 rfl) ?_
  refine lv_iconst (v := 0) hx hb dL_crossings_1 (by decide) ?_
  refine lv_aload_n hx hb dL_crossings_2 rfl (lv_at hl 0 rfl) ?_
  refine lv_iload_n hx hb dL_crossings_3 rfl (lv_at hl 1 rfl) ?_
  refine kxVc (wOut g o f) (List.perm_append_comm) C X hM (cw_L_crossings C) 0 (ci := 5) he rfl (As := [.int p1]) rfl hl (rest := [.int 0, .ref o]) rfl (Nat.le_of_ble_eq_true rfl) dL_crossings_4 ⟨Nat.le_of_ble_eq_true rfl, Nat.le_of_ble_eq_true rfl⟩ [] ⟨0, 9, 12, 25⟩ [] (by rw [htab]; rfl) (fun z hz => absurd hz List.not_mem_nil) (by decide) (by decide) lk_L_crossings_0 (by decide) (fun t q H locs X => ?_)
  refine lv_astore_n (lv' := [(3, .ref q), (0, .ref b), (1, .int p1), (2, .ref o)]) hx hb dL_crossings_12 rfl hl (by decide) rfl (fun ls hl => ?_)
  refine lv_iconst (v := 1) hx hb dL_crossings_13 (by decide) ?_
  exact keiret t C X dL_crossings_14
set_option maxRecDepth 100000 in
set_option maxHeartbeats 4000000 in
theorem kLr_crossings {S : Type} (l : Launch) (g : kG) (b o : Nat) (p1 : Int32) (fs : List Value) (wc : va_W) (he : wc[0]? = some (b, .inr (5, fs))) (f : Nat → Int64) (v : Int32) (w2 : S → va_W) (hM : KX l yX5_crossings wsX5_crossings rX5_crossings g [.ref b, .int p1] wc (.inr (some (.int v), w2)) 1 6) : KE (S := S) l yL_crossings wsL_crossings rL_crossings g [.ref b, .int p1, .ref o] (wOut g o f ++ wc) (some (.int 0)) (fun s => wOut g o (vp_updL f 0 v.toInt64) ++ w2 s) 1 6 := by
  refine KE.ofH (nL := 4) (by decide) rfl (Nat.le_of_ble_eq_true rfl) ?_
  intro p e s m args below meth c A ls C htab X hl
  have C : CT g p s m args meth c RL cL_crossings 4 (some .int) wsL_crossings A := C
  have hx := C.1
  have hb := C.2.1
  have hl : lv_has ls 4 [(0, .ref b), (1, .int p1), (2, .ref o)] := hl
  refine lv_aload_n hx hb dL_crossings_0 rfl (lv_at hl 2 rfl) ?_
  refine lv_iconst (v := 0) hx hb dL_crossings_1 (by decide) ?_
  refine lv_aload_n hx hb dL_crossings_2 rfl (lv_at hl 0 rfl) ?_
  refine lv_iload_n hx hb dL_crossings_3 rfl (lv_at hl 1 rfl) ?_
  refine kxV (wOut g o f) (List.perm_append_comm) C X hM (cw_L_crossings C) 0 (ci := 5) he rfl (As := [.int p1]) rfl hl (rest := [.int 0, .ref o]) rfl (Nat.le_of_ble_eq_true rfl) (st2 := [.int v, .int 0, .ref o]) rfl dL_crossings_4 ⟨Nat.le_of_ble_eq_true rfl, Nat.le_of_ble_eq_true rfl⟩ (w3 := fun s => wOut g o f ++ w2 s) (fun _ => List.Perm.refl _) (fun t H locs X => ?_)
  refine lv_i2l (v := v.toInt64) hx hb dL_crossings_7 rfl ?_
  refine klast C X 0 rfl (i := 0) (by decide) (w2 := wOut g o (vp_updL f 0 v.toInt64) ++ w2 t) rfl dL_crossings_8 (fun H locs X => ?_)
  refine lv_goto (tgt := 15) hx hb dL_crossings_9 (by decide) ?_
  refine lv_iconst (v := 0) hx hb dL_crossings_15 (by decide) ?_
  exact keiret (w2 := fun s => wOut g o (vp_updL f 0 v.toInt64) ++ w2 s) t C X dL_crossings_16
abbrev rL_count : Room := { frames := 7, cells := 1, slots := 6, locals := 111 }
theorem cw_L_count {p : Program} {s : State} {m : MethodId} {args : Array Value} {meth : Method} {c : Code} {g : kG} {A : Nat → Prop} (C : CT g p s m args meth c RL cL_count 4 (some .int) wsL_count A) : CallW rL_count s args RL RX5 72 yX5_count cX5_count 2 (some .int) wsX5_count rX5_count 1 6 1 := cwV 1 C.2.2.2.2.2.1 gL_count_X5_count rfl rfl rfl (by decide +kernel) ⟨Nat.le_of_ble_eq_true rfl, Nat.le_of_ble_eq_true rfl⟩
theorem lk_L_count_0 : (Cond.classLink RL 13 (kEx 1)) ∈ wsL_count := by decide +kernel
set_option maxRecDepth 100000 in
set_option maxHeartbeats 4000000 in
theorem kLt_count_0 {S : Type} (l : Launch) (g : kG) (b o : Nat) (p1 : Int32) (fs : List Value) (wc : va_W) (he : wc[0]? = some (b, .inr (5, fs))) (f : Nat → Int64) (w2 : S → va_W) (hM : KX l yX5_count wsX5_count rX5_count g [.ref b, .int p1] wc (.inl (1, w2)) 1 6) : KE (S := S) l yL_count wsL_count rL_count g [.ref b, .int p1, .ref o] (wOut g o f ++ wc) (some (.int 1)) (fun s => wOut g o f ++ w2 s) 1 6 := by
  refine KE.ofH (nL := 4) (by decide) rfl (Nat.le_of_ble_eq_true rfl) ?_
  intro p e s m args below meth c A ls C htab X hl
  have C : CT g p s m args meth c RL cL_count 4 (some .int) wsL_count A := C
  have hx := C.1
  have hb := C.2.1
  have hl : lv_has ls 4 [(0, .ref b), (1, .int p1), (2, .ref o)] := hl
  refine lv_aload_n hx hb dL_count_0 rfl (lv_at hl 2 rfl) ?_
  refine lv_iconst (v := 0) hx hb dL_count_1 (by decide) ?_
  refine lv_aload_n hx hb dL_count_2 rfl (lv_at hl 0 rfl) ?_
  refine lv_iload_n hx hb dL_count_3 rfl (lv_at hl 1 rfl) ?_
  refine kxVc (wOut g o f) (List.perm_append_comm) C X hM (cw_L_count C) 0 (ci := 5) he rfl (As := [.int p1]) rfl hl (rest := [.int 0, .ref o]) rfl (Nat.le_of_ble_eq_true rfl) dL_count_4 ⟨Nat.le_of_ble_eq_true rfl, Nat.le_of_ble_eq_true rfl⟩ [] ⟨0, 9, 12, 13⟩ [] (by rw [htab]; rfl) (fun z hz => absurd hz List.not_mem_nil) (by decide) (by decide) lk_L_count_0 (by decide) (fun t q H locs X => ?_)
  refine lv_astore_n (lv' := [(3, .ref q), (0, .ref b), (1, .int p1), (2, .ref o)]) hx hb dL_count_12 rfl hl (by decide) rfl (fun ls hl => ?_)
  refine lv_iconst (v := 1) hx hb dL_count_13 (by decide) ?_
  exact keiret t C X dL_count_14
set_option maxRecDepth 100000 in
set_option maxHeartbeats 4000000 in
theorem kLr_count {S : Type} (l : Launch) (g : kG) (b o : Nat) (p1 : Int32) (fs : List Value) (wc : va_W) (he : wc[0]? = some (b, .inr (5, fs))) (f : Nat → Int64) (v : Int32) (w2 : S → va_W) (hM : KX l yX5_count wsX5_count rX5_count g [.ref b, .int p1] wc (.inr (some (.int v), w2)) 1 6) : KE (S := S) l yL_count wsL_count rL_count g [.ref b, .int p1, .ref o] (wOut g o f ++ wc) (some (.int 0)) (fun s => wOut g o (vp_updL f 0 v.toInt64) ++ w2 s) 1 6 := by
  refine KE.ofH (nL := 4) (by decide) rfl (Nat.le_of_ble_eq_true rfl) ?_
  intro p e s m args below meth c A ls C htab X hl
  have C : CT g p s m args meth c RL cL_count 4 (some .int) wsL_count A := C
  have hx := C.1
  have hb := C.2.1
  have hl : lv_has ls 4 [(0, .ref b), (1, .int p1), (2, .ref o)] := hl
  refine lv_aload_n hx hb dL_count_0 rfl (lv_at hl 2 rfl) ?_
  refine lv_iconst (v := 0) hx hb dL_count_1 (by decide) ?_
  refine lv_aload_n hx hb dL_count_2 rfl (lv_at hl 0 rfl) ?_
  refine lv_iload_n hx hb dL_count_3 rfl (lv_at hl 1 rfl) ?_
  refine kxV (wOut g o f) (List.perm_append_comm) C X hM (cw_L_count C) 0 (ci := 5) he rfl (As := [.int p1]) rfl hl (rest := [.int 0, .ref o]) rfl (Nat.le_of_ble_eq_true rfl) (st2 := [.int v, .int 0, .ref o]) rfl dL_count_4 ⟨Nat.le_of_ble_eq_true rfl, Nat.le_of_ble_eq_true rfl⟩ (w3 := fun s => wOut g o f ++ w2 s) (fun _ => List.Perm.refl _) (fun t H locs X => ?_)
  refine lv_i2l (v := v.toInt64) hx hb dL_count_7 rfl ?_
  refine klast C X 0 rfl (i := 0) (by decide) (w2 := wOut g o (vp_updL f 0 v.toInt64) ++ w2 t) rfl dL_count_8 (fun H locs X => ?_)
  refine lv_goto (tgt := 15) hx hb dL_count_9 (by decide) ?_
  refine lv_iconst (v := 0) hx hb dL_count_15 (by decide) ?_
  exact keiret (w2 := fun s => wOut g o (vp_updL f 0 v.toInt64) ++ w2 s) t C X dL_count_16
abbrev rL_setting : Room := { frames := 8, cells := 1, slots := 6, locals := 131 }
theorem cw_L_setting {p : Program} {s : State} {m : MethodId} {args : Array Value} {meth : Method} {c : Code} {g : kG} {A : Nat → Prop} (C : CT g p s m args meth c RL cL_setting 4 (some .int) wsL_setting A) : CallW rL_setting s args RL RX5 75 yX5_setting cX5_setting 2 (some .int) wsX5_setting rX5_setting 1 6 1 := cwV 1 C.2.2.2.2.2.1 gL_setting_X5_setting rfl rfl rfl (by decide +kernel) ⟨Nat.le_of_ble_eq_true rfl, Nat.le_of_ble_eq_true rfl⟩
theorem lk_L_setting_0 : (Cond.classLink RL 25 (kEx 0)) ∈ wsL_setting := by decide +kernel
set_option maxRecDepth 100000 in
set_option maxHeartbeats 4000000 in
theorem kLt_setting_0 {S : Type} (l : Launch) (g : kG) (b o : Nat) (p1 : Int32) (fs : List Value) (wc : va_W) (he : wc[0]? = some (b, .inr (5, fs))) (f : Nat → Int64) (w2 : S → va_W) (hM : KX l yX5_setting wsX5_setting rX5_setting g [.ref b, .int p1] wc (.inl (0, w2)) 1 6) : KE (S := S) l yL_setting wsL_setting rL_setting g [.ref b, .int p1, .ref o] (wOut g o f ++ wc) (some (.int 1)) (fun s => wOut g o f ++ w2 s) 1 6 := by
  refine KE.ofH (nL := 4) (by decide) rfl (Nat.le_of_ble_eq_true rfl) ?_
  intro p e s m args below meth c A ls C htab X hl
  have C : CT g p s m args meth c RL cL_setting 4 (some .int) wsL_setting A := C
  have hx := C.1
  have hb := C.2.1
  have hl : lv_has ls 4 [(0, .ref b), (1, .int p1), (2, .ref o)] := hl
  refine lv_aload_n hx hb dL_setting_0 rfl (lv_at hl 2 rfl) ?_
  refine lv_iconst (v := 0) hx hb dL_setting_1 (by decide) ?_
  refine lv_aload_n hx hb dL_setting_2 rfl (lv_at hl 0 rfl) ?_
  refine lv_iload_n hx hb dL_setting_3 rfl (lv_at hl 1 rfl) ?_
  refine kxVc (wOut g o f) (List.perm_append_comm) C X hM (cw_L_setting C) 0 (ci := 5) he rfl (As := [.int p1]) rfl hl (rest := [.int 0, .ref o]) rfl (Nat.le_of_ble_eq_true rfl) dL_setting_4 ⟨Nat.le_of_ble_eq_true rfl, Nat.le_of_ble_eq_true rfl⟩ [] ⟨0, 9, 12, 25⟩ [] (by rw [htab]; rfl) (fun z hz => absurd hz List.not_mem_nil) (by decide) (by decide) lk_L_setting_0 (by decide) (fun t q H locs X => ?_)
  refine lv_astore_n (lv' := [(3, .ref q), (0, .ref b), (1, .int p1), (2, .ref o)]) hx hb dL_setting_12 rfl hl (by decide) rfl (fun ls hl => ?_)
  refine lv_iconst (v := 1) hx hb dL_setting_13 (by decide) ?_
  exact keiret t C X dL_setting_14
set_option maxRecDepth 100000 in
set_option maxHeartbeats 4000000 in
theorem kLr_setting {S : Type} (l : Launch) (g : kG) (b o : Nat) (p1 : Int32) (fs : List Value) (wc : va_W) (he : wc[0]? = some (b, .inr (5, fs))) (f : Nat → Int64) (v : Int32) (w2 : S → va_W) (hM : KX l yX5_setting wsX5_setting rX5_setting g [.ref b, .int p1] wc (.inr (some (.int v), w2)) 1 6) : KE (S := S) l yL_setting wsL_setting rL_setting g [.ref b, .int p1, .ref o] (wOut g o f ++ wc) (some (.int 0)) (fun s => wOut g o (vp_updL f 0 v.toInt64) ++ w2 s) 1 6 := by
  refine KE.ofH (nL := 4) (by decide) rfl (Nat.le_of_ble_eq_true rfl) ?_
  intro p e s m args below meth c A ls C htab X hl
  have C : CT g p s m args meth c RL cL_setting 4 (some .int) wsL_setting A := C
  have hx := C.1
  have hb := C.2.1
  have hl : lv_has ls 4 [(0, .ref b), (1, .int p1), (2, .ref o)] := hl
  refine lv_aload_n hx hb dL_setting_0 rfl (lv_at hl 2 rfl) ?_
  refine lv_iconst (v := 0) hx hb dL_setting_1 (by decide) ?_
  refine lv_aload_n hx hb dL_setting_2 rfl (lv_at hl 0 rfl) ?_
  refine lv_iload_n hx hb dL_setting_3 rfl (lv_at hl 1 rfl) ?_
  refine kxV (wOut g o f) (List.perm_append_comm) C X hM (cw_L_setting C) 0 (ci := 5) he rfl (As := [.int p1]) rfl hl (rest := [.int 0, .ref o]) rfl (Nat.le_of_ble_eq_true rfl) (st2 := [.int v, .int 0, .ref o]) rfl dL_setting_4 ⟨Nat.le_of_ble_eq_true rfl, Nat.le_of_ble_eq_true rfl⟩ (w3 := fun s => wOut g o f ++ w2 s) (fun _ => List.Perm.refl _) (fun t H locs X => ?_)
  refine lv_i2l (v := v.toInt64) hx hb dL_setting_7 rfl ?_
  refine klast C X 0 rfl (i := 0) (by decide) (w2 := wOut g o (vp_updL f 0 v.toInt64) ++ w2 t) rfl dL_setting_8 (fun H locs X => ?_)
  refine lv_goto (tgt := 15) hx hb dL_setting_9 (by decide) ?_
  refine lv_iconst (v := 0) hx hb dL_setting_15 (by decide) ?_
  exact keiret (w2 := fun s => wOut g o (vp_updL f 0 v.toInt64) ++ w2 s) t C X dL_setting_16
abbrev rL_nearest : Room := { frames := 9, cells := 2, slots := 12, locals := 155 }
theorem cw_L_nearest {p : Program} {s : State} {m : MethodId} {args : Array Value} {meth : Method} {c : Code} {g : kG} {A : Nat → Prop} (C : CT g p s m args meth c RL cL_nearest 5 (some .int) wsL_nearest A) : CallW rL_nearest s args RL RX5 78 yX5_nearest cX5_nearest 3 (some .int) wsX5_nearest rX5_nearest 2 12 2 := cwV 2 C.2.2.2.2.2.1 gL_nearest_X5_nearest rfl rfl rfl (by decide +kernel) ⟨Nat.le_of_ble_eq_true rfl, Nat.le_of_ble_eq_true rfl⟩
theorem lk_L_nearest_0 : (Cond.classLink RL 13 (kEx 1)) ∈ wsL_nearest := by decide +kernel
set_option maxRecDepth 100000 in
set_option maxHeartbeats 4000000 in
theorem kLt_nearest_0 {S : Type} (l : Launch) (g : kG) (b o : Nat) (p1 : Int32) (p2 : Int32) (fs : List Value) (wc : va_W) (he : wc[0]? = some (b, .inr (5, fs))) (f : Nat → Int64) (w2 : S → va_W) (hM : KX l yX5_nearest wsX5_nearest rX5_nearest g [.ref b, .int p1, .int p2] wc (.inl (1, w2)) 2 12) : KE (S := S) l yL_nearest wsL_nearest rL_nearest g [.ref b, .int p1, .int p2, .ref o] (wOut g o f ++ wc) (some (.int 1)) (fun s => wOut g o f ++ w2 s) 2 12 := by
  refine KE.ofH (nL := 5) (by decide) rfl (Nat.le_of_ble_eq_true rfl) ?_
  intro p e s m args below meth c A ls C htab X hl
  have C : CT g p s m args meth c RL cL_nearest 5 (some .int) wsL_nearest A := C
  have hx := C.1
  have hb := C.2.1
  have hl : lv_has ls 5 [(0, .ref b), (1, .int p1), (2, .int p2), (3, .ref o)] := hl
  refine lv_aload_n hx hb dL_nearest_0 rfl (lv_at hl 3 rfl) ?_
  refine lv_iconst (v := 0) hx hb dL_nearest_1 (by decide) ?_
  refine lv_aload_n hx hb dL_nearest_2 rfl (lv_at hl 0 rfl) ?_
  refine lv_iload_n hx hb dL_nearest_3 rfl (lv_at hl 1 rfl) ?_
  refine lv_iload_n hx hb dL_nearest_4 rfl (lv_at hl 2 rfl) ?_
  refine kxVc (wOut g o f) (List.perm_append_comm) C X hM (cw_L_nearest C) 0 (ci := 5) he rfl (As := [.int p1, .int p2]) rfl hl (rest := [.int 0, .ref o]) rfl (Nat.le_of_ble_eq_true rfl) dL_nearest_5 ⟨Nat.le_of_ble_eq_true rfl, Nat.le_of_ble_eq_true rfl⟩ [] ⟨0, 10, 13, 13⟩ [] (by rw [htab]; rfl) (fun z hz => absurd hz List.not_mem_nil) (by decide) (by decide) lk_L_nearest_0 (by decide) (fun t q H locs X => ?_)
  refine lv_astore (lv' := [(4, .ref q), (0, .ref b), (1, .int p1), (2, .int p2), (3, .ref o)]) hx hb dL_nearest_13 hl (by decide) rfl (fun ls hl => ?_)
  refine lv_iconst (v := 1) hx hb dL_nearest_15 (by decide) ?_
  exact keiret t C X dL_nearest_16
set_option maxRecDepth 100000 in
set_option maxHeartbeats 4000000 in
theorem kLr_nearest {S : Type} (l : Launch) (g : kG) (b o : Nat) (p1 : Int32) (p2 : Int32) (fs : List Value) (wc : va_W) (he : wc[0]? = some (b, .inr (5, fs))) (f : Nat → Int64) (v : Int32) (w2 : S → va_W) (hM : KX l yX5_nearest wsX5_nearest rX5_nearest g [.ref b, .int p1, .int p2] wc (.inr (some (.int v), w2)) 2 12) : KE (S := S) l yL_nearest wsL_nearest rL_nearest g [.ref b, .int p1, .int p2, .ref o] (wOut g o f ++ wc) (some (.int 0)) (fun s => wOut g o (vp_updL f 0 v.toInt64) ++ w2 s) 2 12 := by
  refine KE.ofH (nL := 5) (by decide) rfl (Nat.le_of_ble_eq_true rfl) ?_
  intro p e s m args below meth c A ls C htab X hl
  have C : CT g p s m args meth c RL cL_nearest 5 (some .int) wsL_nearest A := C
  have hx := C.1
  have hb := C.2.1
  have hl : lv_has ls 5 [(0, .ref b), (1, .int p1), (2, .int p2), (3, .ref o)] := hl
  refine lv_aload_n hx hb dL_nearest_0 rfl (lv_at hl 3 rfl) ?_
  refine lv_iconst (v := 0) hx hb dL_nearest_1 (by decide) ?_
  refine lv_aload_n hx hb dL_nearest_2 rfl (lv_at hl 0 rfl) ?_
  refine lv_iload_n hx hb dL_nearest_3 rfl (lv_at hl 1 rfl) ?_
  refine lv_iload_n hx hb dL_nearest_4 rfl (lv_at hl 2 rfl) ?_
  refine kxV (wOut g o f) (List.perm_append_comm) C X hM (cw_L_nearest C) 0 (ci := 5) he rfl (As := [.int p1, .int p2]) rfl hl (rest := [.int 0, .ref o]) rfl (Nat.le_of_ble_eq_true rfl) (st2 := [.int v, .int 0, .ref o]) rfl dL_nearest_5 ⟨Nat.le_of_ble_eq_true rfl, Nat.le_of_ble_eq_true rfl⟩ (w3 := fun s => wOut g o f ++ w2 s) (fun _ => List.Perm.refl _) (fun t H locs X => ?_)
  refine lv_i2l (v := v.toInt64) hx hb dL_nearest_8 rfl ?_
  refine klast C X 0 rfl (i := 0) (by decide) (w2 := wOut g o (vp_updL f 0 v.toInt64) ++ w2 t) rfl dL_nearest_9 (fun H locs X => ?_)
  refine lv_goto (tgt := 17) hx hb dL_nearest_10 (by decide) ?_
  refine lv_iconst (v := 0) hx hb dL_nearest_17 (by decide) ?_
  exact keiret (w2 := fun s => wOut g o (vp_updL f 0 v.toInt64) ++ w2 s) t C X dL_nearest_18
abbrev rL_ifSimplified : Room := { frames := 9, cells := 3, slots := 18, locals := 188 }
theorem cw_L_ifSimplified {p : Program} {s : State} {m : MethodId} {args : Array Value} {meth : Method} {c : Code} {g : kG} {A : Nat → Prop} (C : CT g p s m args meth c RL cL_ifSimplified 6 (some .int) wsL_ifSimplified A) : CallW rL_ifSimplified s args RL RX5 81 yX5_ifSimplified cX5_ifSimplified 5 (some .int) wsX5_ifSimplified rX5_ifSimplified 3 18 3 := cwV 3 C.2.2.2.2.2.1 gL_ifSimplified_X5_ifSimplified rfl rfl rfl (by decide +kernel) ⟨Nat.le_of_ble_eq_true rfl, Nat.le_of_ble_eq_true rfl⟩
theorem lk_L_ifSimplified_0 : (Cond.classLink RL 25 (kEx 0)) ∈ wsL_ifSimplified := by decide +kernel
theorem lk_L_ifSimplified_1 : (Cond.classLink RL 13 (kEx 1)) ∈ wsL_ifSimplified := by decide +kernel
set_option maxRecDepth 100000 in
set_option maxHeartbeats 4000000 in
theorem kLt_ifSimplified_0 {S : Type} (l : Launch) (g : kG) (b o : Nat) (p1 : Int32) (p2 : Int32) (p3 : Int32) (fs : List Value) (wc : va_W) (he : wc[0]? = some (b, .inr (5, fs))) (f : Nat → Int64) (w2 : S → va_W) (hM : KX l yX5_ifSimplified wsX5_ifSimplified rX5_ifSimplified g [.ref b, .int p1, .int p2, .int p3] wc (.inl (0, w2)) 3 18) : KE (S := S) l yL_ifSimplified wsL_ifSimplified rL_ifSimplified g [.ref b, .int p1, .int p2, .int p3, .ref o] (wOut g o f ++ wc) (some (.int 1)) (fun s => wOut g o f ++ w2 s) 3 18 := by
  refine KE.ofH (nL := 6) (by decide) rfl (Nat.le_of_ble_eq_true rfl) ?_
  intro p e s m args below meth c A ls C htab X hl
  have C : CT g p s m args meth c RL cL_ifSimplified 6 (some .int) wsL_ifSimplified A := C
  have hx := C.1
  have hb := C.2.1
  have hl : lv_has ls 6 [(0, .ref b), (1, .int p1), (2, .int p2), (3, .int p3), (4, .ref o)] := hl
  refine lv_aload hx hb dL_ifSimplified_0 (lv_at hl 4 rfl) ?_
  refine lv_iconst (v := 0) hx hb dL_ifSimplified_2 (by decide) ?_
  refine lv_aload_n hx hb dL_ifSimplified_3 rfl (lv_at hl 0 rfl) ?_
  refine lv_iload_n hx hb dL_ifSimplified_4 rfl (lv_at hl 1 rfl) ?_
  refine lv_iload_n hx hb dL_ifSimplified_5 rfl (lv_at hl 2 rfl) ?_
  refine lv_iload_n hx hb dL_ifSimplified_6 rfl (lv_at hl 3 rfl) ?_
  refine kxVc (wOut g o f) (List.perm_append_comm) C X hM (cw_L_ifSimplified C) 0 (ci := 5) he rfl (As := [.int p1, .int p2, .int p3]) rfl hl (rest := [.int 0, .ref o]) rfl (Nat.le_of_ble_eq_true rfl) dL_ifSimplified_7 ⟨Nat.le_of_ble_eq_true rfl, Nat.le_of_ble_eq_true rfl⟩ [] ⟨0, 12, 15, 25⟩ [⟨0, 12, 19, 13⟩] (by rw [htab]; rfl) (fun z hz => absurd hz List.not_mem_nil) (by decide) (by decide) lk_L_ifSimplified_0 (by decide) (fun t q H locs X => ?_)
  refine lv_astore (lv' := [(5, .ref q), (0, .ref b), (1, .int p1), (2, .int p2), (3, .int p3), (4, .ref o)]) hx hb dL_ifSimplified_15 hl (by decide) rfl (fun ls hl => ?_)
  refine lv_iconst (v := 1) hx hb dL_ifSimplified_17 (by decide) ?_
  exact keiret t C X dL_ifSimplified_18
set_option maxRecDepth 100000 in
set_option maxHeartbeats 4000000 in
theorem kLt_ifSimplified_1 {S : Type} (l : Launch) (g : kG) (b o : Nat) (p1 : Int32) (p2 : Int32) (p3 : Int32) (fs : List Value) (wc : va_W) (he : wc[0]? = some (b, .inr (5, fs))) (f : Nat → Int64) (w2 : S → va_W) (hM : KX l yX5_ifSimplified wsX5_ifSimplified rX5_ifSimplified g [.ref b, .int p1, .int p2, .int p3] wc (.inl (1, w2)) 3 18) : KE (S := S) l yL_ifSimplified wsL_ifSimplified rL_ifSimplified g [.ref b, .int p1, .int p2, .int p3, .ref o] (wOut g o f ++ wc) (some (.int 2)) (fun s => wOut g o f ++ w2 s) 3 18 := by
  refine KE.ofH (nL := 6) (by decide) rfl (Nat.le_of_ble_eq_true rfl) ?_
  intro p e s m args below meth c A ls C htab X hl
  have C : CT g p s m args meth c RL cL_ifSimplified 6 (some .int) wsL_ifSimplified A := C
  have hx := C.1
  have hb := C.2.1
  have hl : lv_has ls 6 [(0, .ref b), (1, .int p1), (2, .int p2), (3, .int p3), (4, .ref o)] := hl
  refine lv_aload hx hb dL_ifSimplified_0 (lv_at hl 4 rfl) ?_
  refine lv_iconst (v := 0) hx hb dL_ifSimplified_2 (by decide) ?_
  refine lv_aload_n hx hb dL_ifSimplified_3 rfl (lv_at hl 0 rfl) ?_
  refine lv_iload_n hx hb dL_ifSimplified_4 rfl (lv_at hl 1 rfl) ?_
  refine lv_iload_n hx hb dL_ifSimplified_5 rfl (lv_at hl 2 rfl) ?_
  refine lv_iload_n hx hb dL_ifSimplified_6 rfl (lv_at hl 3 rfl) ?_
  refine kxVc (wOut g o f) (List.perm_append_comm) C X hM (cw_L_ifSimplified C) 0 (ci := 5) he rfl (As := [.int p1, .int p2, .int p3]) rfl hl (rest := [.int 0, .ref o]) rfl (Nat.le_of_ble_eq_true rfl) dL_ifSimplified_7 ⟨Nat.le_of_ble_eq_true rfl, Nat.le_of_ble_eq_true rfl⟩ [⟨0, 12, 15, 25⟩] ⟨0, 12, 19, 13⟩ [] (by rw [htab]; rfl) (List.forall_mem_cons.mpr ⟨⟨by decide, kEx 0, lk_L_ifSimplified_0, by decide⟩, List.forall_mem_nil _⟩) (by decide) (by decide) lk_L_ifSimplified_1 (by decide) (fun t q H locs X => ?_)
  refine lv_astore (lv' := [(5, .ref q), (0, .ref b), (1, .int p1), (2, .int p2), (3, .int p3), (4, .ref o)]) hx hb dL_ifSimplified_19 hl (by decide) rfl (fun ls hl => ?_)
  refine lv_iconst (v := 2) hx hb dL_ifSimplified_21 (by decide) ?_
  exact keiret t C X dL_ifSimplified_22
set_option maxRecDepth 100000 in
set_option maxHeartbeats 4000000 in
theorem kLr_ifSimplified {S : Type} (l : Launch) (g : kG) (b o : Nat) (p1 : Int32) (p2 : Int32) (p3 : Int32) (fs : List Value) (wc : va_W) (he : wc[0]? = some (b, .inr (5, fs))) (f : Nat → Int64) (v : Int32) (w2 : S → va_W) (hM : KX l yX5_ifSimplified wsX5_ifSimplified rX5_ifSimplified g [.ref b, .int p1, .int p2, .int p3] wc (.inr (some (.int v), w2)) 3 18) : KE (S := S) l yL_ifSimplified wsL_ifSimplified rL_ifSimplified g [.ref b, .int p1, .int p2, .int p3, .ref o] (wOut g o f ++ wc) (some (.int 0)) (fun s => wOut g o (vp_updL f 0 v.toInt64) ++ w2 s) 3 18 := by
  refine KE.ofH (nL := 6) (by decide) rfl (Nat.le_of_ble_eq_true rfl) ?_
  intro p e s m args below meth c A ls C htab X hl
  have C : CT g p s m args meth c RL cL_ifSimplified 6 (some .int) wsL_ifSimplified A := C
  have hx := C.1
  have hb := C.2.1
  have hl : lv_has ls 6 [(0, .ref b), (1, .int p1), (2, .int p2), (3, .int p3), (4, .ref o)] := hl
  refine lv_aload hx hb dL_ifSimplified_0 (lv_at hl 4 rfl) ?_
  refine lv_iconst (v := 0) hx hb dL_ifSimplified_2 (by decide) ?_
  refine lv_aload_n hx hb dL_ifSimplified_3 rfl (lv_at hl 0 rfl) ?_
  refine lv_iload_n hx hb dL_ifSimplified_4 rfl (lv_at hl 1 rfl) ?_
  refine lv_iload_n hx hb dL_ifSimplified_5 rfl (lv_at hl 2 rfl) ?_
  refine lv_iload_n hx hb dL_ifSimplified_6 rfl (lv_at hl 3 rfl) ?_
  refine kxV (wOut g o f) (List.perm_append_comm) C X hM (cw_L_ifSimplified C) 0 (ci := 5) he rfl (As := [.int p1, .int p2, .int p3]) rfl hl (rest := [.int 0, .ref o]) rfl (Nat.le_of_ble_eq_true rfl) (st2 := [.int v, .int 0, .ref o]) rfl dL_ifSimplified_7 ⟨Nat.le_of_ble_eq_true rfl, Nat.le_of_ble_eq_true rfl⟩ (w3 := fun s => wOut g o f ++ w2 s) (fun _ => List.Perm.refl _) (fun t H locs X => ?_)
  refine lv_i2l (v := v.toInt64) hx hb dL_ifSimplified_10 rfl ?_
  refine klast C X 0 rfl (i := 0) (by decide) (w2 := wOut g o (vp_updL f 0 v.toInt64) ++ w2 t) rfl dL_ifSimplified_11 (fun H locs X => ?_)
  refine lv_goto (tgt := 23) hx hb dL_ifSimplified_12 (by decide) ?_
  refine lv_iconst (v := 0) hx hb dL_ifSimplified_23 (by decide) ?_
  exact keiret (w2 := fun s => wOut g o (vp_updL f 0 v.toInt64) ++ w2 s) t C X dL_ifSimplified_24
abbrev rL_leastBound : Room := { frames := 9, cells := 3, slots := 18, locals := 190 }
theorem cw_L_leastBound {p : Program} {s : State} {m : MethodId} {args : Array Value} {meth : Method} {c : Code} {g : kG} {A : Nat → Prop} (C : CT g p s m args meth c RL cL_leastBound 6 (some .int) wsL_leastBound A) : CallW rL_leastBound s args RL RX5 84 yX5_leastBound cX5_leastBound 5 (some .int) wsX5_leastBound rX5_leastBound 3 18 3 := cwV 3 C.2.2.2.2.2.1 gL_leastBound_X5_leastBound rfl rfl rfl (by decide +kernel) ⟨Nat.le_of_ble_eq_true rfl, Nat.le_of_ble_eq_true rfl⟩
theorem lk_L_leastBound_0 : (Cond.classLink RL 25 (kEx 0)) ∈ wsL_leastBound := by decide +kernel
theorem lk_L_leastBound_1 : (Cond.classLink RL 13 (kEx 1)) ∈ wsL_leastBound := by decide +kernel
set_option maxRecDepth 100000 in
set_option maxHeartbeats 4000000 in
theorem kLt_leastBound_0 {S : Type} (l : Launch) (g : kG) (b o : Nat) (p1 : Int32) (p2 : Int32) (p3 : Int32) (fs : List Value) (wc : va_W) (he : wc[0]? = some (b, .inr (5, fs))) (f : Nat → Int64) (w2 : S → va_W) (hM : KX l yX5_leastBound wsX5_leastBound rX5_leastBound g [.ref b, .int p1, .int p2, .int p3] wc (.inl (0, w2)) 3 18) : KE (S := S) l yL_leastBound wsL_leastBound rL_leastBound g [.ref b, .int p1, .int p2, .int p3, .ref o] (wOut g o f ++ wc) (some (.int 1)) (fun s => wOut g o f ++ w2 s) 3 18 := by
  refine KE.ofH (nL := 6) (by decide) rfl (Nat.le_of_ble_eq_true rfl) ?_
  intro p e s m args below meth c A ls C htab X hl
  have C : CT g p s m args meth c RL cL_leastBound 6 (some .int) wsL_leastBound A := C
  have hx := C.1
  have hb := C.2.1
  have hl : lv_has ls 6 [(0, .ref b), (1, .int p1), (2, .int p2), (3, .int p3), (4, .ref o)] := hl
  refine lv_aload hx hb dL_leastBound_0 (lv_at hl 4 rfl) ?_
  refine lv_iconst (v := 0) hx hb dL_leastBound_2 (by decide) ?_
  refine lv_aload_n hx hb dL_leastBound_3 rfl (lv_at hl 0 rfl) ?_
  refine lv_iload_n hx hb dL_leastBound_4 rfl (lv_at hl 1 rfl) ?_
  refine lv_iload_n hx hb dL_leastBound_5 rfl (lv_at hl 2 rfl) ?_
  refine lv_iload_n hx hb dL_leastBound_6 rfl (lv_at hl 3 rfl) ?_
  refine kxVc (wOut g o f) (List.perm_append_comm) C X hM (cw_L_leastBound C) 0 (ci := 5) he rfl (As := [.int p1, .int p2, .int p3]) rfl hl (rest := [.int 0, .ref o]) rfl (Nat.le_of_ble_eq_true rfl) dL_leastBound_7 ⟨Nat.le_of_ble_eq_true rfl, Nat.le_of_ble_eq_true rfl⟩ [] ⟨0, 12, 15, 25⟩ [⟨0, 12, 19, 13⟩] (by rw [htab]; rfl) (fun z hz => absurd hz List.not_mem_nil) (by decide) (by decide) lk_L_leastBound_0 (by decide) (fun t q H locs X => ?_)
  refine lv_astore (lv' := [(5, .ref q), (0, .ref b), (1, .int p1), (2, .int p2), (3, .int p3), (4, .ref o)]) hx hb dL_leastBound_15 hl (by decide) rfl (fun ls hl => ?_)
  refine lv_iconst (v := 1) hx hb dL_leastBound_17 (by decide) ?_
  exact keiret t C X dL_leastBound_18
set_option maxRecDepth 100000 in
set_option maxHeartbeats 4000000 in
theorem kLt_leastBound_1 {S : Type} (l : Launch) (g : kG) (b o : Nat) (p1 : Int32) (p2 : Int32) (p3 : Int32) (fs : List Value) (wc : va_W) (he : wc[0]? = some (b, .inr (5, fs))) (f : Nat → Int64) (w2 : S → va_W) (hM : KX l yX5_leastBound wsX5_leastBound rX5_leastBound g [.ref b, .int p1, .int p2, .int p3] wc (.inl (1, w2)) 3 18) : KE (S := S) l yL_leastBound wsL_leastBound rL_leastBound g [.ref b, .int p1, .int p2, .int p3, .ref o] (wOut g o f ++ wc) (some (.int 2)) (fun s => wOut g o f ++ w2 s) 3 18 := by
  refine KE.ofH (nL := 6) (by decide) rfl (Nat.le_of_ble_eq_true rfl) ?_
  intro p e s m args below meth c A ls C htab X hl
  have C : CT g p s m args meth c RL cL_leastBound 6 (some .int) wsL_leastBound A := C
  have hx := C.1
  have hb := C.2.1
  have hl : lv_has ls 6 [(0, .ref b), (1, .int p1), (2, .int p2), (3, .int p3), (4, .ref o)] := hl
  refine lv_aload hx hb dL_leastBound_0 (lv_at hl 4 rfl) ?_
  refine lv_iconst (v := 0) hx hb dL_leastBound_2 (by decide) ?_
  refine lv_aload_n hx hb dL_leastBound_3 rfl (lv_at hl 0 rfl) ?_
  refine lv_iload_n hx hb dL_leastBound_4 rfl (lv_at hl 1 rfl) ?_
  refine lv_iload_n hx hb dL_leastBound_5 rfl (lv_at hl 2 rfl) ?_
  refine lv_iload_n hx hb dL_leastBound_6 rfl (lv_at hl 3 rfl) ?_
  refine kxVc (wOut g o f) (List.perm_append_comm) C X hM (cw_L_leastBound C) 0 (ci := 5) he rfl (As := [.int p1, .int p2, .int p3]) rfl hl (rest := [.int 0, .ref o]) rfl (Nat.le_of_ble_eq_true rfl) dL_leastBound_7 ⟨Nat.le_of_ble_eq_true rfl, Nat.le_of_ble_eq_true rfl⟩ [⟨0, 12, 15, 25⟩] ⟨0, 12, 19, 13⟩ [] (by rw [htab]; rfl) (List.forall_mem_cons.mpr ⟨⟨by decide, kEx 0, lk_L_leastBound_0, by decide⟩, List.forall_mem_nil _⟩) (by decide) (by decide) lk_L_leastBound_1 (by decide) (fun t q H locs X => ?_)
  refine lv_astore (lv' := [(5, .ref q), (0, .ref b), (1, .int p1), (2, .int p2), (3, .int p3), (4, .ref o)]) hx hb dL_leastBound_19 hl (by decide) rfl (fun ls hl => ?_)
  refine lv_iconst (v := 2) hx hb dL_leastBound_21 (by decide) ?_
  exact keiret t C X dL_leastBound_22
set_option maxRecDepth 100000 in
set_option maxHeartbeats 4000000 in
theorem kLr_leastBound {S : Type} (l : Launch) (g : kG) (b o : Nat) (p1 : Int32) (p2 : Int32) (p3 : Int32) (fs : List Value) (wc : va_W) (he : wc[0]? = some (b, .inr (5, fs))) (f : Nat → Int64) (v : Int32) (w2 : S → va_W) (hM : KX l yX5_leastBound wsX5_leastBound rX5_leastBound g [.ref b, .int p1, .int p2, .int p3] wc (.inr (some (.int v), w2)) 3 18) : KE (S := S) l yL_leastBound wsL_leastBound rL_leastBound g [.ref b, .int p1, .int p2, .int p3, .ref o] (wOut g o f ++ wc) (some (.int 0)) (fun s => wOut g o (vp_updL f 0 v.toInt64) ++ w2 s) 3 18 := by
  refine KE.ofH (nL := 6) (by decide) rfl (Nat.le_of_ble_eq_true rfl) ?_
  intro p e s m args below meth c A ls C htab X hl
  have C : CT g p s m args meth c RL cL_leastBound 6 (some .int) wsL_leastBound A := C
  have hx := C.1
  have hb := C.2.1
  have hl : lv_has ls 6 [(0, .ref b), (1, .int p1), (2, .int p2), (3, .int p3), (4, .ref o)] := hl
  refine lv_aload hx hb dL_leastBound_0 (lv_at hl 4 rfl) ?_
  refine lv_iconst (v := 0) hx hb dL_leastBound_2 (by decide) ?_
  refine lv_aload_n hx hb dL_leastBound_3 rfl (lv_at hl 0 rfl) ?_
  refine lv_iload_n hx hb dL_leastBound_4 rfl (lv_at hl 1 rfl) ?_
  refine lv_iload_n hx hb dL_leastBound_5 rfl (lv_at hl 2 rfl) ?_
  refine lv_iload_n hx hb dL_leastBound_6 rfl (lv_at hl 3 rfl) ?_
  refine kxV (wOut g o f) (List.perm_append_comm) C X hM (cw_L_leastBound C) 0 (ci := 5) he rfl (As := [.int p1, .int p2, .int p3]) rfl hl (rest := [.int 0, .ref o]) rfl (Nat.le_of_ble_eq_true rfl) (st2 := [.int v, .int 0, .ref o]) rfl dL_leastBound_7 ⟨Nat.le_of_ble_eq_true rfl, Nat.le_of_ble_eq_true rfl⟩ (w3 := fun s => wOut g o f ++ w2 s) (fun _ => List.Perm.refl _) (fun t H locs X => ?_)
  refine lv_i2l (v := v.toInt64) hx hb dL_leastBound_10 rfl ?_
  refine klast C X 0 rfl (i := 0) (by decide) (w2 := wOut g o (vp_updL f 0 v.toInt64) ++ w2 t) rfl dL_leastBound_11 (fun H locs X => ?_)
  refine lv_goto (tgt := 23) hx hb dL_leastBound_12 (by decide) ?_
  refine lv_iconst (v := 0) hx hb dL_leastBound_23 (by decide) ?_
  exact keiret (w2 := fun s => wOut g o (vp_updL f 0 v.toInt64) ++ w2 s) t C X dL_leastBound_24
