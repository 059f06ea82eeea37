abbrev rL_stroke : Room := { frames := 9, cells := 18, slots := 419, locals := 278 }
theorem cw_L_stroke {p : Program} {s : State} {m : MethodId} {args : Array Value} {meth : Method} {c : Code} {g : kG} {A : Nat → Prop} (C : CT g p s m args meth c RL cL_stroke 7 (some .int) wsL_stroke A) : CallW rL_stroke s args RL RX5 38 yX5_stroke cX5_stroke 6 (some .int) wsX5_stroke rX5_stroke 18 419 4 := cwV 4 C.2.2.2.2.2.1 gL_stroke_X5_stroke rfl rfl rfl (by decide +kernel) ⟨Nat.le_of_ble_eq_true rfl, Nat.le_of_ble_eq_true rfl⟩
theorem lk_L_stroke_0 : (Cond.classLink RL 17 (kEx 1)) ∈ wsL_stroke := by decide +kernel
theorem lk_L_stroke_1 : (Cond.classLink RL 19 (kEx 2)) ∈ wsL_stroke := by decide +kernel
set_option maxRecDepth 100000 in
set_option maxHeartbeats 4000000 in
theorem kLt_stroke_0 {S : Type} (l : Launch) (g : kG) (b : Nat) (p1 : Int32) (p2 : Int32) (p3 : Int32) (p4 : Int32) (fs : List Value) (wc : va_W) (he : wc[0]? = some (b, .inr (5, fs))) (w2 : S → va_W) (hM : KX l yX5_stroke wsX5_stroke rX5_stroke g [.ref b, .int p1, .int p2, .int p3, .int p4] wc (.inl (1, w2)) 18 419) : KE (S := S) l yL_stroke wsL_stroke rL_stroke g [.ref b, .int p1, .int p2, .int p3, .int p4] wc (some (.int (-32))) w2 18 419 := by
  refine KE.ofH (nL := 7) (by decide) rfl (Nat.le_of_ble_eq_true rfl) ?_
  intro p e s m args below meth c A ls C htab X hl
  have C : CT g p s m args meth c RL cL_stroke 7 (some .int) wsL_stroke A := C
  have hx := C.1
  have hb := C.2.1
  have hl : lv_has ls 7 [(0, .ref b), (1, .int p1), (2, .int p2), (3, .int p3), (4, .int p4)] := hl
  refine lv_aload_n hx hb dL_stroke_0 rfl (lv_at hl 0 rfl) ?_
  refine lv_iload_n hx hb dL_stroke_1 rfl (lv_at hl 1 rfl) ?_
  refine lv_iload_n hx hb dL_stroke_2 rfl (lv_at hl 2 rfl) ?_
  refine lv_iload_n hx hb dL_stroke_3 rfl (lv_at hl 3 rfl) ?_
  refine lv_iload hx hb dL_stroke_4 (lv_at hl 4 rfl) ?_
  refine kxVc [] (pm_wh _) C X hM (cw_L_stroke C) 0 (ci := 5) he rfl (As := [.int p1, .int p2, .int p3, .int p4]) rfl hl (rest := []) rfl (Nat.le_of_ble_eq_true rfl) dL_stroke_6 ⟨Nat.le_of_ble_eq_true rfl, Nat.le_of_ble_eq_true rfl⟩ [] ⟨0, 11, 14, 17⟩ [⟨0, 11, 19, 19⟩] (by rw [htab]; rfl) (fun z hz => absurd hz List.not_mem_nil) (by decide) (by decide) lk_L_stroke_0 (by decide) (fun t q H locs X => ?_)
  refine lv_astore (lv' := [(6, .ref q), (0, .ref b), (1, .int p1), (2, .int p2), (3, .int p3), (4, .int p4)]) hx hb dL_stroke_14 hl (by decide) rfl (fun ls hl => ?_)
  refine lv_bipush (v := (-32)) hx hb dL_stroke_16 (by decide) ?_
  exact keiret (w2 := w2) t C X dL_stroke_18
set_option maxRecDepth 100000 in
set_option maxHeartbeats 4000000 in
theorem kLt_stroke_1 {S : Type} (l : Launch) (g : kG) (b : Nat) (p1 : Int32) (p2 : Int32) (p3 : Int32) (p4 : Int32) (fs : List Value) (wc : va_W) (he : wc[0]? = some (b, .inr (5, fs))) (w2 : S → va_W) (hM : KX l yX5_stroke wsX5_stroke rX5_stroke g [.ref b, .int p1, .int p2, .int p3, .int p4] wc (.inl (2, w2)) 18 419) : KE (S := S) l yL_stroke wsL_stroke rL_stroke g [.ref b, .int p1, .int p2, .int p3, .int p4] wc (some (.int (-33))) w2 18 419 := by
  refine KE.ofH (nL := 7) (by decide) rfl (Nat.le_of_ble_eq_true rfl) ?_
  intro p e s m args below meth c A ls C htab X hl
  have C : CT g p s m args meth c RL cL_stroke 7 (some .int) wsL_stroke A := C
  have hx := C.1
  have hb := C.2.1
  have hl : lv_has ls 7 [(0, .ref b), (1, .int p1), (2, .int p2), (3, .int p3), (4, .int p4)] := hl
  refine lv_aload_n hx hb dL_stroke_0 rfl (lv_at hl 0 rfl) ?_
  refine lv_iload_n hx hb dL_stroke_1 rfl (lv_at hl 1 rfl) ?_
  refine lv_iload_n hx hb dL_stroke_2 rfl (lv_at hl 2 rfl) ?_
  refine lv_iload_n hx hb dL_stroke_3 rfl (lv_at hl 3 rfl) ?_
  refine lv_iload hx hb dL_stroke_4 (lv_at hl 4 rfl) ?_
  refine kxVc [] (pm_wh _) C X hM (cw_L_stroke C) 0 (ci := 5) he rfl (As := [.int p1, .int p2, .int p3, .int p4]) rfl hl (rest := []) rfl (Nat.le_of_ble_eq_true rfl) dL_stroke_6 ⟨Nat.le_of_ble_eq_true rfl, Nat.le_of_ble_eq_true rfl⟩ [⟨0, 11, 14, 17⟩] ⟨0, 11, 19, 19⟩ [] (by rw [htab]; rfl) (List.forall_mem_cons.mpr ⟨⟨by decide, kEx 1, lk_L_stroke_0, by decide⟩, List.forall_mem_nil _⟩) (by decide) (by decide) lk_L_stroke_1 (by decide) (fun t q H locs X => ?_)
  refine lv_astore (lv' := [(6, .ref q), (0, .ref b), (1, .int p1), (2, .int p2), (3, .int p3), (4, .int p4)]) hx hb dL_stroke_19 hl (by decide) rfl (fun ls hl => ?_)
  refine lv_bipush (v := (-33)) hx hb dL_stroke_21 (by decide) ?_
  exact keiret (w2 := w2) t C X dL_stroke_23
set_option maxRecDepth 100000 in
set_option maxHeartbeats 4000000 in
theorem kLr_stroke {S : Type} (l : Launch) (g : kG) (b : Nat) (p1 : Int32) (p2 : Int32) (p3 : Int32) (p4 : Int32) (fs : List Value) (wc : va_W) (he : wc[0]? = some (b, .inr (5, fs))) (v : Int32) (w2 : S → va_W) (hM : KX l yX5_stroke wsX5_stroke rX5_stroke g [.ref b, .int p1, .int p2, .int p3, .int p4] wc (.inr (some (.int v), w2)) 18 419) : KE (S := S) l yL_stroke wsL_stroke rL_stroke g [.ref b, .int p1, .int p2, .int p3, .int p4] wc (some (.int v)) w2 18 419 := by
  refine KE.ofH (nL := 7) (by decide) rfl (Nat.le_of_ble_eq_true rfl) ?_
  intro p e s m args below meth c A ls C htab X hl
  have C : CT g p s m args meth c RL cL_stroke 7 (some .int) wsL_stroke A := C
  have hx := C.1
  have hb := C.2.1
  have hl : lv_has ls 7 [(0, .ref b), (1, .int p1), (2, .int p2), (3, .int p3), (4, .int p4)] := hl
  refine lv_aload_n hx hb dL_stroke_0 rfl (lv_at hl 0 rfl) ?_
  refine lv_iload_n hx hb dL_stroke_1 rfl (lv_at hl 1 rfl) ?_
  refine lv_iload_n hx hb dL_stroke_2 rfl (lv_at hl 2 rfl) ?_
  refine lv_iload_n hx hb dL_stroke_3 rfl (lv_at hl 3 rfl) ?_
  refine lv_iload hx hb dL_stroke_4 (lv_at hl 4 rfl) ?_
  refine kxV [] (pm_wh _) C X hM (cw_L_stroke C) 0 (ci := 5) he rfl (As := [.int p1, .int p2, .int p3, .int p4]) rfl hl (rest := []) rfl (Nat.le_of_ble_eq_true rfl) (st2 := [.int v]) rfl dL_stroke_6 ⟨Nat.le_of_ble_eq_true rfl, Nat.le_of_ble_eq_true rfl⟩ (w3 := w2) (fun _ => pm_wi _) (fun t H locs X => ?_)
  refine lv_istore (lv' := [(5, .int v), (0, .ref b), (1, .int p1), (2, .int p2), (3, .int p3), (4, .int p4)]) hx hb dL_stroke_9 hl (by decide) rfl (fun ls hl => ?_)
  refine lv_goto (tgt := 24) hx hb dL_stroke_11 (by decide) ?_
  refine lv_iload hx hb dL_stroke_24 (lv_at hl 0 rfl) ?_
  exact keiret (w2 := w2) t C X dL_stroke_26
noncomputable def fL_stroke (p1 : Int32) (p2 : Int32) (p3 : Int32) (p4 : Int32) (u : ShS) (hs : HS) : Option (Int32 × ShS × HS) := (fX5_stroke p1 p2 p3 p4 u hs).bind fun q => Sum.elim (fun (E, u2, hs2) => if E = 1 then some ((-32), u2, hs2) else if E = 2 then some ((-33), u2, hs2) else none) (fun r => some r) q
set_option maxRecDepth 100000 in
theorem kL_stroke (l : Launch) (hl9 : l.stackTraces = false) (g : kG) (D : Nat → Nat → Nat) (R : kAd) (p1 : Int32) (p2 : Int32) (p3 : Int32) (p4 : Int32) (u : ShS) (ts : TS) (bs : SS) (ps : PS) (hs : HS) (ns : NS) (o1 : Int32) (o2 : ShS) (o3 : HS) (hm : fL_stroke p1 p2 p3 p4 u hs = some (o1, o2, o3)) : KE (S := kAd) l yL_stroke wsL_stroke rL_stroke g [.ref (D 0 0), .int p1, .int p2, .int p3, .int p4] (wB g D R u ts bs ps hs ns) (some (.int o1)) (fun R => wB g D R o2 ts bs ps o3 ns) 18 419 := by
  obtain ⟨q, h1, h2⟩ := bnd hm
  have hM := kX5_stroke l hl9 g D R p1 p2 p3 p4 u ts bs ps hs ns q h1
  rcases q with ⟨E, u2, hs2⟩ | ⟨v, u2, hs2⟩
  · have h2 : (if E = 1 then some ((-32), u2, hs2) else if E = 2 then some ((-33), u2, hs2) else none) = some (o1, o2, o3) := h2
    by_cases e0 : E = 1
    · subst e0
      rw [if_pos rfl] at h2
      cases sm h2
      exact kLt_stroke_0 l g (D 0 0) p1 p2 p3 p4 _ _ rfl _ hM
    rw [if_neg e0] at h2
    by_cases e1 : E = 2
    · subst e1
      rw [if_pos rfl] at h2
      cases sm h2
      exact kLt_stroke_1 l g (D 0 0) p1 p2 p3 p4 _ _ rfl _ hM
    rw [if_neg e1] at h2
    cases h2
  · have h2 : some (v, u2, hs2) = some (o1, o2, o3) := h2
    cases sm h2
    exact kLr_stroke l g (D 0 0) p1 p2 p3 p4 _ _ rfl _ _ hM
abbrev rL_insert : Room := { frames := 9, cells := 17, slots := 413, locals := 279 }
theorem cw_L_insert {p : Program} {s : State} {m : MethodId} {args : Array Value} {meth : Method} {c : Code} {g : kG} {A : Nat → Prop} (C : CT g p s m args meth c RL cL_insert 8 (some .int) wsL_insert A) : CallW rL_insert s args RL RX5 9 yX5_insert cX5_insert 7 (some .int) wsX5_insert rX5_insert 17 413 5 := cwV 5 C.2.2.2.2.2.1 gL_insert_X5_insert rfl rfl rfl (by decide +kernel) ⟨Nat.le_of_ble_eq_true rfl, Nat.le_of_ble_eq_true rfl⟩
theorem lk_L_insert_0 : (Cond.classLink RL 15 (kEx 0)) ∈ wsL_insert := by decide +kernel
theorem lk_L_insert_1 : (Cond.classLink RL 17 (kEx 1)) ∈ wsL_insert := by decide +kernel
theorem lk_L_insert_2 : (Cond.classLink RL 19 (kEx 2)) ∈ wsL_insert := by decide +kernel
set_option maxRecDepth 100000 in
set_option maxHeartbeats 4000000 in
theorem kLt_insert_0 {S : Type} (l : Launch) (g : kG) (b : Nat) (p1 : Int32) (p2 : Int32) (p3 : Int32) (p4 : Int32) (p5 : Int32) (fs : List Value) (wc : va_W) (he : wc[0]? = some (b, .inr (5, fs))) (w2 : S → va_W) (hM : KX l yX5_insert wsX5_insert rX5_insert g [.ref b, .int p1, .int p2, .int p3, .int p4, .int p5] wc (.inl (0, w2)) 17 413) : KE (S := S) l yL_insert wsL_insert rL_insert g [.ref b, .int p1, .int p2, .int p3, .int p4, .int p5] wc (some (.int (-31))) w2 17 413 := by
  refine KE.ofH (nL := 8) (by decide) rfl (Nat.le_of_ble_eq_true rfl) ?_
  intro p e s m args below meth c A ls C htab X hl
  have C : CT g p s m args meth c RL cL_insert 8 (some .int) wsL_insert A := C
  have hx := C.1
  have hb := C.2.1
  have hl : lv_has ls 8 [(0, .ref b), (1, .int p1), (2, .int p2), (3, .int p3), (4, .int p4), (5, .int p5)] := hl
  refine lv_aload_n hx hb dL_insert_0 rfl (lv_at hl 0 rfl) ?_
  refine lv_iload_n hx hb dL_insert_1 rfl (lv_at hl 1 rfl) ?_
  refine lv_iload_n hx hb dL_insert_2 rfl (lv_at hl 2 rfl) ?_
  refine lv_iload_n hx hb dL_insert_3 rfl (lv_at hl 3 rfl) ?_
  refine lv_iload hx hb dL_insert_4 (lv_at hl 4 rfl) ?_
  refine lv_iload hx hb dL_insert_6 (lv_at hl 5 rfl) ?_
  refine kxVc [] (pm_wh _) C X hM (cw_L_insert C) 0 (ci := 5) he rfl (As := [.int p1, .int p2, .int p3, .int p4, .int p5]) rfl hl (rest := []) rfl (Nat.le_of_ble_eq_true rfl) dL_insert_8 ⟨Nat.le_of_ble_eq_true rfl, Nat.le_of_ble_eq_true rfl⟩ [] ⟨0, 13, 16, 15⟩ [⟨0, 13, 21, 17⟩, ⟨0, 13, 26, 19⟩] (by rw [htab]; rfl) (fun z hz => absurd hz List.not_mem_nil) (by decide) (by decide) lk_L_insert_0 (by decide) (fun t q H locs X => ?_)
  refine lv_astore (lv' := [(7, .ref q), (0, .ref b), (1, .int p1), (2, .int p2), (3, .int p3), (4, .int p4), (5, .int p5)]) hx hb dL_insert_16 hl (by decide) rfl (fun ls hl => ?_)
  refine lv_bipush (v := (-31)) hx hb dL_insert_18 (by decide) ?_
  exact keiret (w2 := w2) t C X dL_insert_20
set_option maxRecDepth 100000 in
set_option maxHeartbeats 4000000 in
theorem kLt_insert_1 {S : Type} (l : Launch) (g : kG) (b : Nat) (p1 : Int32) (p2 : Int32) (p3 : Int32) (p4 : Int32) (p5 : Int32) (fs : List Value) (wc : va_W) (he : wc[0]? = some (b, .inr (5, fs))) (w2 : S → va_W) (hM : KX l yX5_insert wsX5_insert rX5_insert g [.ref b, .int p1, .int p2, .int p3, .int p4, .int p5] wc (.inl (1, w2)) 17 413) : KE (S := S) l yL_insert wsL_insert rL_insert g [.ref b, .int p1, .int p2, .int p3, .int p4, .int p5] wc (some (.int (-32))) w2 17 413 := by
  refine KE.ofH (nL := 8) (by decide) rfl (Nat.le_of_ble_eq_true rfl) ?_
  intro p e s m args below meth c A ls C htab X hl
  have C : CT g p s m args meth c RL cL_insert 8 (some .int) wsL_insert A := C
  have hx := C.1
  have hb := C.2.1
  have hl : lv_has ls 8 [(0, .ref b), (1, .int p1), (2, .int p2), (3, .int p3), (4, .int p4), (5, .int p5)] := hl
  refine lv_aload_n hx hb dL_insert_0 rfl (lv_at hl 0 rfl) ?_
  refine lv_iload_n hx hb dL_insert_1 rfl (lv_at hl 1 rfl) ?_
  refine lv_iload_n hx hb dL_insert_2 rfl (lv_at hl 2 rfl) ?_
  refine lv_iload_n hx hb dL_insert_3 rfl (lv_at hl 3 rfl) ?_
  refine lv_iload hx hb dL_insert_4 (lv_at hl 4 rfl) ?_
  refine lv_iload hx hb dL_insert_6 (lv_at hl 5 rfl) ?_
  refine kxVc [] (pm_wh _) C X hM (cw_L_insert C) 0 (ci := 5) he rfl (As := [.int p1, .int p2, .int p3, .int p4, .int p5]) rfl hl (rest := []) rfl (Nat.le_of_ble_eq_true rfl) dL_insert_8 ⟨Nat.le_of_ble_eq_true rfl, Nat.le_of_ble_eq_true rfl⟩ [⟨0, 13, 16, 15⟩] ⟨0, 13, 21, 17⟩ [⟨0, 13, 26, 19⟩] (by rw [htab]; rfl) (List.forall_mem_cons.mpr ⟨⟨by decide, kEx 0, lk_L_insert_0, by decide⟩, List.forall_mem_nil _⟩) (by decide) (by decide) lk_L_insert_1 (by decide) (fun t q H locs X => ?_)
  refine lv_astore (lv' := [(7, .ref q), (0, .ref b), (1, .int p1), (2, .int p2), (3, .int p3), (4, .int p4), (5, .int p5)]) hx hb dL_insert_21 hl (by decide) rfl (fun ls hl => ?_)
  refine lv_bipush (v := (-32)) hx hb dL_insert_23 (by decide) ?_
  exact keiret (w2 := w2) t C X dL_insert_25
set_option maxRecDepth 100000 in
set_option maxHeartbeats 4000000 in
theorem kLt_insert_2 {S : Type} (l : Launch) (g : kG) (b : Nat) (p1 : Int32) (p2 : Int32) (p3 : Int32) (p4 : Int32) (p5 : Int32) (fs : List Value) (wc : va_W) (he : wc[0]? = some (b, .inr (5, fs))) (w2 : S → va_W) (hM : KX l yX5_insert wsX5_insert rX5_insert g [.ref b, .int p1, .int p2, .int p3, .int p4, .int p5] wc (.inl (2, w2)) 17 413) : KE (S := S) l yL_insert wsL_insert rL_insert g [.ref b, .int p1, .int p2, .int p3, .int p4, .int p5] wc (some (.int (-33))) w2 17 413 := by
  refine KE.ofH (nL := 8) (by decide) rfl (Nat.le_of_ble_eq_true rfl) ?_
  intro p e s m args below meth c A ls C htab X hl
  have C : CT g p s m args meth c RL cL_insert 8 (some .int) wsL_insert A := C
  have hx := C.1
  have hb := C.2.1
  have hl : lv_has ls 8 [(0, .ref b), (1, .int p1), (2, .int p2), (3, .int p3), (4, .int p4), (5, .int p5)] := hl
  refine lv_aload_n hx hb dL_insert_0 rfl (lv_at hl 0 rfl) ?_
  refine lv_iload_n hx hb dL_insert_1 rfl (lv_at hl 1 rfl) ?_
  refine lv_iload_n hx hb dL_insert_2 rfl (lv_at hl 2 rfl) ?_
  refine lv_iload_n hx hb dL_insert_3 rfl (lv_at hl 3 rfl) ?_
  refine lv_iload hx hb dL_insert_4 (lv_at hl 4 rfl) ?_
  refine lv_iload hx hb dL_insert_6 (lv_at hl 5 rfl) ?_
  refine kxVc [] (pm_wh _) C X hM (cw_L_insert C) 0 (ci := 5) he rfl (As := [.int p1, .int p2, .int p3, .int p4, .int p5]) rfl hl (rest := []) rfl (Nat.le_of_ble_eq_true rfl) dL_insert_8 ⟨Nat.le_of_ble_eq_true rfl, Nat.le_of_ble_eq_true rfl⟩ [⟨0, 13, 16, 15⟩, ⟨0, 13, 21, 17⟩] ⟨0, 13, 26, 19⟩ [] (by rw [htab]; rfl) (List.forall_mem_cons.mpr ⟨⟨by decide, kEx 0, lk_L_insert_0, by decide⟩, List.forall_mem_cons.mpr ⟨⟨by decide, kEx 1, lk_L_insert_1, by decide⟩, List.forall_mem_nil _⟩⟩) (by decide) (by decide) lk_L_insert_2 (by decide) (fun t q H locs X => ?_)
  refine lv_astore (lv' := [(7, .ref q), (0, .ref b), (1, .int p1), (2, .int p2), (3, .int p3), (4, .int p4), (5, .int p5)]) hx hb dL_insert_26 hl (by decide) rfl (fun ls hl => ?_)
  refine lv_bipush (v := (-33)) hx hb dL_insert_28 (by decide) ?_
  exact keiret (w2 := w2) t C X dL_insert_30
set_option maxRecDepth 100000 in
set_option maxHeartbeats 4000000 in
theorem kLr_insert {S : Type} (l : Launch) (g : kG) (b : Nat) (p1 : Int32) (p2 : Int32) (p3 : Int32) (p4 : Int32) (p5 : Int32) (fs : List Value) (wc : va_W) (he : wc[0]? = some (b, .inr (5, fs))) (v : Int32) (w2 : S → va_W) (hM : KX l yX5_insert wsX5_insert rX5_insert g [.ref b, .int p1, .int p2, .int p3, .int p4, .int p5] wc (.inr (some (.int v), w2)) 17 413) : KE (S := S) l yL_insert wsL_insert rL_insert g [.ref b, .int p1, .int p2, .int p3, .int p4, .int p5] wc (some (.int v)) w2 17 413 := by
  refine KE.ofH (nL := 8) (by decide) rfl (Nat.le_of_ble_eq_true rfl) ?_
  intro p e s m args below meth c A ls C htab X hl
  have C : CT g p s m args meth c RL cL_insert 8 (some .int) wsL_insert A := C
  have hx := C.1
  have hb := C.2.1
  have hl : lv_has ls 8 [(0, .ref b), (1, .int p1), (2, .int p2), (3, .int p3), (4, .int p4), (5, .int p5)] := hl
  refine lv_aload_n hx hb dL_insert_0 rfl (lv_at hl 0 rfl) ?_
  refine lv_iload_n hx hb dL_insert_1 rfl (lv_at hl 1 rfl) ?_
  refine lv_iload_n hx hb dL_insert_2 rfl (lv_at hl 2 rfl) ?_
  refine lv_iload_n hx hb dL_insert_3 rfl (lv_at hl 3 rfl) ?_
  refine lv_iload hx hb dL_insert_4 (lv_at hl 4 rfl) ?_
  refine lv_iload hx hb dL_insert_6 (lv_at hl 5 rfl) ?_
  refine kxV [] (pm_wh _) C X hM (cw_L_insert C) 0 (ci := 5) he rfl (As := [.int p1, .int p2, .int p3, .int p4, .int p5]) rfl hl (rest := []) rfl (Nat.le_of_ble_eq_true rfl) (st2 := [.int v]) rfl dL_insert_8 ⟨Nat.le_of_ble_eq_true rfl, Nat.le_of_ble_eq_true rfl⟩ (w3 := w2) (fun _ => pm_wi _) (fun t H locs X => ?_)
  refine lv_istore (lv' := [(6, .int v), (0, .ref b), (1, .int p1), (2, .int p2), (3, .int p3), (4, .int p4), (5, .int p5)]) hx hb dL_insert_11 hl (by decide) rfl (fun ls hl => ?_)
  refine lv_goto (tgt := 31) hx hb dL_insert_13 (by decide) ?_
  refine lv_iload hx hb dL_insert_31 (lv_at hl 0 rfl) ?_
  exact keiret (w2 := w2) t C X dL_insert_33
noncomputable def fL_insert (p1 : Int32) (p2 : Int32) (p3 : Int32) (p4 : Int32) (p5 : Int32) (u : ShS) (hs : HS) : Option (Int32 × ShS × HS) := (fX5_insert p1 p2 p3 p4 p5 u hs).bind fun q => Sum.elim (fun (E, u2, hs2) => if E = 0 then some ((-31), u2, hs2) else if E = 1 then some ((-32), u2, hs2) else if E = 2 then some ((-33), u2, hs2) else none) (fun r => some r) q
set_option maxRecDepth 100000 in
theorem kL_insert (l : Launch) (hl9 : l.stackTraces = false) (g : kG) (D : Nat → Nat → Nat) (R : kAd) (p1 : Int32) (p2 : Int32) (p3 : Int32) (p4 : Int32) (p5 : Int32) (u : ShS) (ts : TS) (bs : SS) (ps : PS) (hs : HS) (ns : NS) (o1 : Int32) (o2 : ShS) (o3 : HS) (hm : fL_insert p1 p2 p3 p4 p5 u hs = some (o1, o2, o3)) : KE (S := kAd) l yL_insert wsL_insert rL_insert g [.ref (D 0 0), .int p1, .int p2, .int p3, .int p4, .int p5] (wB g D R u ts bs ps hs ns) (some (.int o1)) (fun R => wB g D R o2 ts bs ps o3 ns) 17 413 := by
  obtain ⟨q, h1, h2⟩ := bnd hm
  have hM := kX5_insert l hl9 g D R p1 p2 p3 p4 p5 u ts bs ps hs ns q h1
  rcases q with ⟨E, u2, hs2⟩ | ⟨v, u2, hs2⟩
  · have h2 : (if E = 0 then some ((-31), u2, hs2) else if E = 1 then some ((-32), u2, hs2) else if E = 2 then some ((-33), u2, hs2) else none) = some (o1, o2, o3) := h2
    by_cases e0 : E = 0
    · subst e0
      rw [if_pos rfl] at h2
      cases sm h2
      exact kLt_insert_0 l g (D 0 0) p1 p2 p3 p4 p5 _ _ rfl _ hM
    rw [if_neg e0] at h2
    by_cases e1 : E = 1
    · subst e1
      rw [if_pos rfl] at h2
      cases sm h2
      exact kLt_insert_1 l g (D 0 0) p1 p2 p3 p4 p5 _ _ rfl _ hM
    rw [if_neg e1] at h2
    by_cases e2 : E = 2
    · subst e2
      rw [if_pos rfl] at h2
      cases sm h2
      exact kLt_insert_2 l g (D 0 0) p1 p2 p3 p4 p5 _ _ rfl _ hM
    rw [if_neg e2] at h2
    cases h2
  · have h2 : some (v, u2, hs2) = some (o1, o2, o3) := h2
    cases sm h2
    exact kLr_insert l g (D 0 0) p1 p2 p3 p4 p5 _ _ rfl _ _ hM
abbrev rL_change : Room := { frames := 9, cells := 18, slots := 419, locals := 280 }
theorem cw_L_change {p : Program} {s : State} {m : MethodId} {args : Array Value} {meth : Method} {c : Code} {g : kG} {A : Nat → Prop} (C : CT g p s m args meth c RL cL_change 8 (some .int) wsL_change A) : CallW rL_change s args RL RX5 21 yX5_change cX5_change 8 (some .int) wsX5_change rX5_change 18 419 5 := cwV 5 C.2.2.2.2.2.1 gL_change_X5_change rfl rfl rfl (by decide +kernel) ⟨Nat.le_of_ble_eq_true rfl, Nat.le_of_ble_eq_true rfl⟩
theorem lk_L_change_0 : (Cond.classLink RL 15 (kEx 0)) ∈ wsL_change := by decide +kernel
theorem lk_L_change_1 : (Cond.classLink RL 17 (kEx 1)) ∈ wsL_change := by decide +kernel
set_option maxRecDepth 100000 in
set_option maxHeartbeats 4000000 in
theorem kLt_change_0 {S : Type} (l : Launch) (g : kG) (b : Nat) (p1 : Int32) (p2 : Int32) (p3 : Int32) (p4 : Int32) (p5 : Int32) (fs : List Value) (wc : va_W) (he : wc[0]? = some (b, .inr (5, fs))) (w2 : S → va_W) (hM : KX l yX5_change wsX5_change rX5_change g [.ref b, .int p1, .int p2, .int p3, .int p4, .int p5] wc (.inl (0, w2)) 18 419) : KE (S := S) l yL_change wsL_change rL_change g [.ref b, .int p1, .int p2, .int p3, .int p4, .int p5] wc (some (.int (-31))) w2 18 419 := by
  refine KE.ofH (nL := 8) (by decide) rfl (Nat.le_of_ble_eq_true rfl) ?_
  intro p e s m args below meth c A ls C htab X hl
  have C : CT g p s m args meth c RL cL_change 8 (some .int) wsL_change A := C
  have hx := C.1
  have hb := C.2.1
  have hl : lv_has ls 8 [(0, .ref b), (1, .int p1), (2, .int p2), (3, .int p3), (4, .int p4), (5, .int p5)] := hl
  refine lv_aload_n hx hb dL_change_0 rfl (lv_at hl 0 rfl) ?_
  refine lv_iload_n hx hb dL_change_1 rfl (lv_at hl 1 rfl) ?_
  refine lv_iload_n hx hb dL_change_2 rfl (lv_at hl 2 rfl) ?_
  refine lv_iload_n hx hb dL_change_3 rfl (lv_at hl 3 rfl) ?_
  refine lv_iload hx hb dL_change_4 (lv_at hl 4 rfl) ?_
  refine lv_iload hx hb dL_change_6 (lv_at hl 5 rfl) ?_
  refine kxVc [] (pm_wh _) C X hM (cw_L_change C) 0 (ci := 5) he rfl (As := [.int p1, .int p2, .int p3, .int p4, .int p5]) rfl hl (rest := []) rfl (Nat.le_of_ble_eq_true rfl) dL_change_8 ⟨Nat.le_of_ble_eq_true rfl, Nat.le_of_ble_eq_true rfl⟩ [] ⟨0, 13, 16, 15⟩ [⟨0, 13, 21, 17⟩] (by rw [htab]; rfl) (fun z hz => absurd hz List.not_mem_nil) (by decide) (by decide) lk_L_change_0 (by decide) (fun t q H locs X => ?_)
  refine lv_astore (lv' := [(7, .ref q), (0, .ref b), (1, .int p1), (2, .int p2), (3, .int p3), (4, .int p4), (5, .int p5)]) hx hb dL_change_16 hl (by decide) rfl (fun ls hl => ?_)
  refine lv_bipush (v := (-31)) hx hb dL_change_18 (by decide) ?_
  exact keiret (w2 := w2) t C X dL_change_20
set_option maxRecDepth 100000 in
set_option maxHeartbeats 4000000 in
theorem kLt_change_1 {S : Type} (l : Launch) (g : kG) (b : Nat) (p1 : Int32) (p2 : Int32) (p3 : Int32) (p4 : Int32) (p5 : Int32) (fs : List Value) (wc : va_W) (he : wc[0]? = some (b, .inr (5, fs))) (w2 : S → va_W) (hM : KX l yX5_change wsX5_change rX5_change g [.ref b, .int p1, .int p2, .int p3, .int p4, .int p5] wc (.inl (1, w2)) 18 419) : KE (S := S) l yL_change wsL_change rL_change g [.ref b, .int p1, .int p2, .int p3, .int p4, .int p5] wc (some (.int (-32))) w2 18 419 := by
  refine KE.ofH (nL := 8) (by decide) rfl (Nat.le_of_ble_eq_true rfl) ?_
  intro p e s m args below meth c A ls C htab X hl
  have C : CT g p s m args meth c RL cL_change 8 (some .int) wsL_change A := C
  have hx := C.1
  have hb := C.2.1
  have hl : lv_has ls 8 [(0, .ref b), (1, .int p1), (2, .int p2), (3, .int p3), (4, .int p4), (5, .int p5)] := hl
  refine lv_aload_n hx hb dL_change_0 rfl (lv_at hl 0 rfl) ?_
  refine lv_iload_n hx hb dL_change_1 rfl (lv_at hl 1 rfl) ?_
  refine lv_iload_n hx hb dL_change_2 rfl (lv_at hl 2 rfl) ?_
  refine lv_iload_n hx hb dL_change_3 rfl (lv_at hl 3 rfl) ?_
  refine lv_iload hx hb dL_change_4 (lv_at hl 4 rfl) ?_
  refine lv_iload hx hb dL_change_6 (lv_at hl 5 rfl) ?_
  refine kxVc [] (pm_wh _) C X hM (cw_L_change C) 0 (ci := 5) he rfl (As := [.int p1, .int p2, .int p3, .int p4, .int p5]) rfl hl (rest := []) rfl (Nat.le_of_ble_eq_true rfl) dL_change_8 ⟨Nat.le_of_ble_eq_true rfl, Nat.le_of_ble_eq_true rfl⟩ [⟨0, 13, 16, 15⟩] ⟨0, 13, 21, 17⟩ [] (by rw [htab]; rfl) (List.forall_mem_cons.mpr ⟨⟨by decide, kEx 0, lk_L_change_0, by decide⟩, List.forall_mem_nil _⟩) (by decide) (by decide) lk_L_change_1 (by decide) (fun t q H locs X => ?_)
  refine lv_astore (lv' := [(7, .ref q), (0, .ref b), (1, .int p1), (2, .int p2), (3, .int p3), (4, .int p4), (5, .int p5)]) hx hb dL_change_21 hl (by decide) rfl (fun ls hl => ?_)
  refine lv_bipush (v := (-32)) hx hb dL_change_23 (by decide) ?_
  exact keiret (w2 := w2) t C X dL_change_25
set_option maxRecDepth 100000 in
set_option maxHeartbeats 4000000 in
theorem kLr_change {S : Type} (l : Launch) (g : kG) (b : Nat) (p1 : Int32) (p2 : Int32) (p3 : Int32) (p4 : Int32) (p5 : Int32) (fs : List Value) (wc : va_W) (he : wc[0]? = some (b, .inr (5, fs))) (v : Int32) (w2 : S → va_W) (hM : KX l yX5_change wsX5_change rX5_change g [.ref b, .int p1, .int p2, .int p3, .int p4, .int p5] wc (.inr (some (.int v), w2)) 18 419) : KE (S := S) l yL_change wsL_change rL_change g [.ref b, .int p1, .int p2, .int p3, .int p4, .int p5] wc (some (.int v)) w2 18 419 := by
  refine KE.ofH (nL := 8) (by decide) rfl (Nat.le_of_ble_eq_true rfl) ?_
  intro p e s m args below meth c A ls C htab X hl
  have C : CT g p s m args meth c RL cL_change 8 (some .int) wsL_change A := C
  have hx := C.1
  have hb := C.2.1
  have hl : lv_has ls 8 [(0, .ref b), (1, .int p1), (2, .int p2), (3, .int p3), (4, .int p4), (5, .int p5)] := hl
  refine lv_aload_n hx hb dL_change_0 rfl (lv_at hl 0 rfl) ?_
  refine lv_iload_n hx hb dL_change_1 rfl (lv_at hl 1 rfl) ?_
  refine lv_iload_n hx hb dL_change_2 rfl (lv_at hl 2 rfl) ?_
  refine lv_iload_n hx hb dL_change_3 rfl (lv_at hl 3 rfl) ?_
  refine lv_iload hx hb dL_change_4 (lv_at hl 4 rfl) ?_
  refine lv_iload hx hb dL_change_6 (lv_at hl 5 rfl) ?_
  refine kxV [] (pm_wh _) C X hM (cw_L_change C) 0 (ci := 5) he rfl (As := [.int p1, .int p2, .int p3, .int p4, .int p5]) rfl hl (rest := []) rfl (Nat.le_of_ble_eq_true rfl) (st2 := [.int v]) rfl dL_change_8 ⟨Nat.le_of_ble_eq_true rfl, Nat.le_of_ble_eq_true rfl⟩ (w3 := w2) (fun _ => pm_wi _) (fun t H locs X => ?_)
  refine lv_istore (lv' := [(6, .int v), (0, .ref b), (1, .int p1), (2, .int p2), (3, .int p3), (4, .int p4), (5, .int p5)]) hx hb dL_change_11 hl (by decide) rfl (fun ls hl => ?_)
  refine lv_goto (tgt := 26) hx hb dL_change_13 (by decide) ?_
  refine lv_iload hx hb dL_change_26 (lv_at hl 0 rfl) ?_
  exact keiret (w2 := w2) t C X dL_change_28
noncomputable def fL_change (p1 : Int32) (p2 : Int32) (p3 : Int32) (p4 : Int32) (p5 : Int32) (u : ShS) (hs : HS) : Option (Int32 × ShS × HS) := (fX5_change p1 p2 p3 p4 p5 u hs).bind fun q => Sum.elim (fun (E, u2, hs2) => if E = 0 then some ((-31), u2, hs2) else if E = 1 then some ((-32), u2, hs2) else none) (fun r => some r) q
set_option maxRecDepth 100000 in
theorem kL_change (l : Launch) (hl9 : l.stackTraces = false) (g : kG) (D : Nat → Nat → Nat) (R : kAd) (p1 : Int32) (p2 : Int32) (p3 : Int32) (p4 : Int32) (p5 : Int32) (u : ShS) (ts : TS) (bs : SS) (ps : PS) (hs : HS) (ns : NS) (o1 : Int32) (o2 : ShS) (o3 : HS) (hm : fL_change p1 p2 p3 p4 p5 u hs = some (o1, o2, o3)) : KE (S := kAd) l yL_change wsL_change rL_change g [.ref (D 0 0), .int p1, .int p2, .int p3, .int p4, .int p5] (wB g D R u ts bs ps hs ns) (some (.int o1)) (fun R => wB g D R o2 ts bs ps o3 ns) 18 419 := by
  obtain ⟨q, h1, h2⟩ := bnd hm
  have hM := kX5_change l hl9 g D R p1 p2 p3 p4 p5 u ts bs ps hs ns q h1
  rcases q with ⟨E, u2, hs2⟩ | ⟨v, u2, hs2⟩
  · have h2 : (if E = 0 then some ((-31), u2, hs2) else if E = 1 then some ((-32), u2, hs2) else none) = some (o1, o2, o3) := h2
    by_cases e0 : E = 0
    · subst e0
      rw [if_pos rfl] at h2
      cases sm h2
      exact kLt_change_0 l g (D 0 0) p1 p2 p3 p4 p5 _ _ rfl _ hM
    rw [if_neg e0] at h2
    by_cases e1 : E = 1
    · subst e1
      rw [if_pos rfl] at h2
      cases sm h2
      exact kLt_change_1 l g (D 0 0) p1 p2 p3 p4 p5 _ _ rfl _ hM
    rw [if_neg e1] at h2
    cases h2
  · have h2 : some (v, u2, hs2) = some (o1, o2, o3) := h2
    cases sm h2
    exact kLr_change l g (D 0 0) p1 p2 p3 p4 p5 _ _ rfl _ _ hM
abbrev rL_remove : Room := { frames := 9, cells := 15, slots := 401, locals := 276 }
theorem cw_L_remove {p : Program} {s : State} {m : MethodId} {args : Array Value} {meth : Method} {c : Code} {g : kG} {A : Nat → Prop} (C : CT g p s m args meth c RL cL_remove 5 (some .int) wsL_remove A) : CallW rL_remove s args RL RX5 24 yX5_remove cX5_remove 4 (some .int) wsX5_remove rX5_remove 15 401 2 := cwV 2 C.2.2.2.2.2.1 gL_remove_X5_remove rfl rfl rfl (by decide +kernel) ⟨Nat.le_of_ble_eq_true rfl, Nat.le_of_ble_eq_true rfl⟩
theorem lk_L_remove_0 : (Cond.classLink RL 15 (kEx 0)) ∈ wsL_remove := by decide +kernel
theorem lk_L_remove_1 : (Cond.classLink RL 19 (kEx 2)) ∈ wsL_remove := by decide +kernel
set_option maxRecDepth 100000 in
set_option maxHeartbeats 4000000 in
theorem kLt_remove_0 {S : Type} (l : Launch) (g : kG) (b : Nat) (p1 : Int32) (p2 : Int32) (fs : List Value) (wc : va_W) (he : wc[0]? = some (b, .inr (5, fs))) (w2 : S → va_W) (hM : KX l yX5_remove wsX5_remove rX5_remove g [.ref b, .int p1, .int p2] wc (.inl (0, w2)) 15 401) : KE (S := S) l yL_remove wsL_remove rL_remove g [.ref b, .int p1, .int p2] wc (some (.int (-31))) w2 15 401 := by
  refine KE.ofH (nL := 5) (by decide) rfl (Nat.le_of_ble_eq_true rfl) ?_
  intro p e s m args below meth c A ls C htab X hl
  have C : CT g p s m args meth c RL cL_remove 5 (some .int) wsL_remove A := C
  have hx := C.1
  have hb := C.2.1
  have hl : lv_has ls 5 [(0, .ref b), (1, .int p1), (2, .int p2)] := hl
  refine lv_aload_n hx hb dL_remove_0 rfl (lv_at hl 0 rfl) ?_
  refine lv_iload_n hx hb dL_remove_1 rfl (lv_at hl 1 rfl) ?_
  refine lv_iload_n hx hb dL_remove_2 rfl (lv_at hl 2 rfl) ?_
  refine kxVc [] (pm_wh _) C X hM (cw_L_remove C) 0 (ci := 5) he rfl (As := [.int p1, .int p2]) rfl hl (rest := []) rfl (Nat.le_of_ble_eq_true rfl) dL_remove_3 ⟨Nat.le_of_ble_eq_true rfl, Nat.le_of_ble_eq_true rfl⟩ [] ⟨0, 7, 10, 15⟩ [⟨0, 7, 15, 19⟩] (by rw [htab]; rfl) (fun z hz => absurd hz List.not_mem_nil) (by decide) (by decide) lk_L_remove_0 (by decide) (fun t q H locs X => ?_)
  refine lv_astore (lv' := [(4, .ref q), (0, .ref b), (1, .int p1), (2, .int p2)]) hx hb dL_remove_10 hl (by decide) rfl (fun ls hl => ?_)
  refine lv_bipush (v := (-31)) hx hb dL_remove_12 (by decide) ?_
  exact keiret (w2 := w2) t C X dL_remove_14
set_option maxRecDepth 100000 in
set_option maxHeartbeats 4000000 in
theorem kLt_remove_1 {S : Type} (l : Launch) (g : kG) (b : Nat) (p1 : Int32) (p2 : Int32) (fs : List Value) (wc : va_W) (he : wc[0]? = some (b, .inr (5, fs))) (w2 : S → va_W) (hM : KX l yX5_remove wsX5_remove rX5_remove g [.ref b, .int p1, .int p2] wc (.inl (2, w2)) 15 401) : KE (S := S) l yL_remove wsL_remove rL_remove g [.ref b, .int p1, .int p2] wc (some (.int (-33))) w2 15 401 := by
  refine KE.ofH (nL := 5) (by decide) rfl (Nat.le_of_ble_eq_true rfl) ?_
  intro p e s m args below meth c A ls C htab X hl
  have C : CT g p s m args meth c RL cL_remove 5 (some .int) wsL_remove A := C
  have hx := C.1
  have hb := C.2.1
  have hl : lv_has ls 5 [(0, .ref b), (1, .int p1), (2, .int p2)] := hl
  refine lv_aload_n hx hb dL_remove_0 rfl (lv_at hl 0 rfl) ?_
  refine lv_iload_n hx hb dL_remove_1 rfl (lv_at hl 1 rfl) ?_
  refine lv_iload_n hx hb dL_remove_2 rfl (lv_at hl 2 rfl) ?_
  refine kxVc [] (pm_wh _) C X hM (cw_L_remove C) 0 (ci := 5) he rfl (As := [.int p1, .int p2]) rfl hl (rest := []) rfl (Nat.le_of_ble_eq_true rfl) dL_remove_3 ⟨Nat.le_of_ble_eq_true rfl, Nat.le_of_ble_eq_true rfl⟩ [⟨0, 7, 10, 15⟩] ⟨0, 7, 15, 19⟩ [] (by rw [htab]; rfl) (List.forall_mem_cons.mpr ⟨⟨by decide, kEx 0, lk_L_remove_0, by decide⟩, List.forall_mem_nil _⟩) (by decide) (by decide) lk_L_remove_1 (by decide) (fun t q H locs X => ?_)
  refine lv_astore (lv' := [(4, .ref q), (0, .ref b), (1, .int p1), (2, .int p2)]) hx hb dL_remove_15 hl (by decide) rfl (fun ls hl => ?_)
  refine lv_bipush (v := (-33)) hx hb dL_remove_17 (by decide) ?_
  exact keiret (w2 := w2) t C X dL_remove_19
set_option maxRecDepth 100000 in
set_option maxHeartbeats 4000000 in
theorem kLr_remove {S : Type} (l : Launch) (g : kG) (b : Nat) (p1 : Int32) (p2 : Int32) (fs : List Value) (wc : va_W) (he : wc[0]? = some (b, .inr (5, fs))) (v : Int32) (w2 : S → va_W) (hM : KX l yX5_remove wsX5_remove rX5_remove g [.ref b, .int p1, .int p2] wc (.inr (some (.int v), w2)) 15 401) : KE (S := S) l yL_remove wsL_remove rL_remove g [.ref b, .int p1, .int p2] wc (some (.int v)) w2 15 401 := by
  refine KE.ofH (nL := 5) (by decide) rfl (Nat.le_of_ble_eq_true rfl) ?_
  intro p e s m args below meth c A ls C htab X hl
  have C : CT g p s m args meth c RL cL_remove 5 (some .int) wsL_remove A := C
  have hx := C.1
  have hb := C.2.1
  have hl : lv_has ls 5 [(0, .ref b), (1, .int p1), (2, .int p2)] := hl
  refine lv_aload_n hx hb dL_remove_0 rfl (lv_at hl 0 rfl) ?_
  refine lv_iload_n hx hb dL_remove_1 rfl (lv_at hl 1 rfl) ?_
  refine lv_iload_n hx hb dL_remove_2 rfl (lv_at hl 2 rfl) ?_
  refine kxV [] (pm_wh _) C X hM (cw_L_remove C) 0 (ci := 5) he rfl (As := [.int p1, .int p2]) rfl hl (rest := []) rfl (Nat.le_of_ble_eq_true rfl) (st2 := [.int v]) rfl dL_remove_3 ⟨Nat.le_of_ble_eq_true rfl, Nat.le_of_ble_eq_true rfl⟩ (w3 := w2) (fun _ => pm_wi _) (fun t H locs X => ?_)
  refine lv_istore_n (lv' := [(3, .int v), (0, .ref b), (1, .int p1), (2, .int p2)]) hx hb dL_remove_6 rfl hl (by decide) rfl (fun ls hl => ?_)
  refine lv_goto (tgt := 20) hx hb dL_remove_7 (by decide) ?_
  refine lv_iload_n hx hb dL_remove_20 rfl (lv_at hl 0 rfl) ?_
  exact keiret (w2 := w2) t C X dL_remove_21
noncomputable def fL_remove (p1 : Int32) (p2 : Int32) (u : ShS) (hs : HS) : Option (Int32 × ShS × HS) := (fX5_remove p1 p2 u hs).bind fun q => Sum.elim (fun (E, u2, hs2) => if E = 0 then some ((-31), u2, hs2) else if E = 2 then some ((-33), u2, hs2) else none) (fun r => some r) q
set_option maxRecDepth 100000 in
theorem kL_remove (l : Launch) (hl9 : l.stackTraces = false) (g : kG) (D : Nat → Nat → Nat) (R : kAd) (p1 : Int32) (p2 : Int32) (u : ShS) (ts : TS) (bs : SS) (ps : PS) (hs : HS) (ns : NS) (o1 : Int32) (o2 : ShS) (o3 : HS) (hm : fL_remove p1 p2 u hs = some (o1, o2, o3)) : KE (S := kAd) l yL_remove wsL_remove rL_remove g [.ref (D 0 0), .int p1, .int p2] (wB g D R u ts bs ps hs ns) (some (.int o1)) (fun R => wB g D R o2 ts bs ps o3 ns) 15 401 := by
  obtain ⟨q, h1, h2⟩ := bnd hm
  have hM := kX5_remove l hl9 g D R p1 p2 u ts bs ps hs ns q h1
  rcases q with ⟨E, u2, hs2⟩ | ⟨v, u2, hs2⟩
  · have h2 : (if E = 0 then some ((-31), u2, hs2) else if E = 2 then some ((-33), u2, hs2) else none) = some (o1, o2, o3) := h2
    by_cases e0 : E = 0
    · subst e0
      rw [if_pos rfl] at h2
      cases sm h2
      exact kLt_remove_0 l g (D 0 0) p1 p2 _ _ rfl _ hM
    rw [if_neg e0] at h2
    by_cases e1 : E = 2
    · subst e1
      rw [if_pos rfl] at h2
      cases sm h2
      exact kLt_remove_1 l g (D 0 0) p1 p2 _ _ rfl _ hM
    rw [if_neg e1] at h2
    cases h2
  · have h2 : some (v, u2, hs2) = some (o1, o2, o3) := h2
    cases sm h2
    exact kLr_remove l g (D 0 0) p1 p2 _ _ rfl _ _ hM
abbrev rL_simplify : Room := { frames := 9, cells := 15, slots := 401, locals := 277 }
theorem cw_L_simplify {p : Program} {s : State} {m : MethodId} {args : Array Value} {meth : Method} {c : Code} {g : kG} {A : Nat → Prop} (C : CT g p s m args meth c RL cL_simplify 5 (some .int) wsL_simplify A) : CallW rL_simplify s args RL RX5 28 yX5_simplify cX5_simplify 5 (some .int) wsX5_simplify rX5_simplify 15 401 2 := cwV 2 C.2.2.2.2.2.1 gL_simplify_X5_simplify rfl rfl rfl (by decide +kernel) ⟨Nat.le_of_ble_eq_true rfl, Nat.le_of_ble_eq_true rfl⟩
theorem lk_L_simplify_0 : (Cond.classLink RL 15 (kEx 0)) ∈ wsL_simplify := by decide +kernel
theorem lk_L_simplify_1 : (Cond.classLink RL 17 (kEx 1)) ∈ wsL_simplify := by decide +kernel
set_option maxRecDepth 100000 in
set_option maxHeartbeats 4000000 in
theorem kLt_simplify_0 {S : Type} (l : Launch) (g : kG) (b : Nat) (p1 : Int32) (p2 : Int32) (fs : List Value) (wc : va_W) (he : wc[0]? = some (b, .inr (5, fs))) (w2 : S → va_W) (hM : KX l yX5_simplify wsX5_simplify rX5_simplify g [.ref b, .int p1, .int p2] wc (.inl (0, w2)) 15 401) : KE (S := S) l yL_simplify wsL_simplify rL_simplify g [.ref b, .int p1, .int p2] wc (some (.int (-31))) w2 15 401 := by
  refine KE.ofH (nL := 5) (by decide) rfl (Nat.le_of_ble_eq_true rfl) ?_
  intro p e s m args below meth c A ls C htab X hl
  have C : CT g p s m args meth c RL cL_simplify 5 (some .int) wsL_simplify A := C
  have hx := C.1
  have hb := C.2.1
  have hl : lv_has ls 5 [(0, .ref b), (1, .int p1), (2, .int p2)] := hl
  refine lv_aload_n hx hb dL_simplify_0 rfl (lv_at hl 0 rfl) ?_
  refine lv_iload_n hx hb dL_simplify_1 rfl (lv_at hl 1 rfl) ?_
  refine lv_iload_n hx hb dL_simplify_2 rfl (lv_at hl 2 rfl) ?_
  refine kxVc [] (pm_wh _) C X hM (cw_L_simplify C) 0 (ci := 5) he rfl (As := [.int p1, .int p2]) rfl hl (rest := []) rfl (Nat.le_of_ble_eq_true rfl) dL_simplify_3 ⟨Nat.le_of_ble_eq_true rfl, Nat.le_of_ble_eq_true rfl⟩ [] ⟨0, 7, 10, 15⟩ [⟨0, 7, 15, 17⟩] (by rw [htab]; rfl) (fun z hz => absurd hz List.not_mem_nil) (by decide) (by decide) lk_L_simplify_0 (by decide) (fun t q H locs X => ?_)
  refine lv_astore (lv' := [(4, .ref q), (0, .ref b), (1, .int p1), (2, .int p2)]) hx hb dL_simplify_10 hl (by decide) rfl (fun ls hl => ?_)
  refine lv_bipush (v := (-31)) hx hb dL_simplify_12 (by decide) ?_
  exact keiret (w2 := w2) t C X dL_simplify_14
set_option maxRecDepth 100000 in
set_option maxHeartbeats 4000000 in
theorem kLt_simplify_1 {S : Type} (l : Launch) (g : kG) (b : Nat) (p1 : Int32) (p2 : Int32) (fs : List Value) (wc : va_W) (he : wc[0]? = some (b, .inr (5, fs))) (w2 : S → va_W) (hM : KX l yX5_simplify wsX5_simplify rX5_simplify g [.ref b, .int p1, .int p2] wc (.inl (1, w2)) 15 401) : KE (S := S) l yL_simplify wsL_simplify rL_simplify g [.ref b, .int p1, .int p2] wc (some (.int (-32))) w2 15 401 := by
  refine KE.ofH (nL := 5) (by decide) rfl (Nat.le_of_ble_eq_true rfl) ?_
  intro p e s m args below meth c A ls C htab X hl
  have C : CT g p s m args meth c RL cL_simplify 5 (some .int) wsL_simplify A := C
  have hx := C.1
  have hb := C.2.1
  have hl : lv_has ls 5 [(0, .ref b), (1, .int p1), (2, .int p2)] := hl
  refine lv_aload_n hx hb dL_simplify_0 rfl (lv_at hl 0 rfl) ?_
  refine lv_iload_n hx hb dL_simplify_1 rfl (lv_at hl 1 rfl) ?_
  refine lv_iload_n hx hb dL_simplify_2 rfl (lv_at hl 2 rfl) ?_
  refine kxVc [] (pm_wh _) C X hM (cw_L_simplify C) 0 (ci := 5) he rfl (As := [.int p1, .int p2]) rfl hl (rest := []) rfl (Nat.le_of_ble_eq_true rfl) dL_simplify_3 ⟨Nat.le_of_ble_eq_true rfl, Nat.le_of_ble_eq_true rfl⟩ [⟨0, 7, 10, 15⟩] ⟨0, 7, 15, 17⟩ [] (by rw [htab]; rfl) (List.forall_mem_cons.mpr ⟨⟨by decide, kEx 0, lk_L_simplify_0, by decide⟩, List.forall_mem_nil _⟩) (by decide) (by decide) lk_L_simplify_1 (by decide) (fun t q H locs X => ?_)
  refine lv_astore (lv' := [(4, .ref q), (0, .ref b), (1, .int p1), (2, .int p2)]) hx hb dL_simplify_15 hl (by decide) rfl (fun ls hl => ?_)
  refine lv_bipush (v := (-32)) hx hb dL_simplify_17 (by decide) ?_
  exact keiret (w2 := w2) t C X dL_simplify_19
set_option maxRecDepth 100000 in
set_option maxHeartbeats 4000000 in
theorem kLr_simplify {S : Type} (l : Launch) (g : kG) (b : Nat) (p1 : Int32) (p2 : Int32) (fs : List Value) (wc : va_W) (he : wc[0]? = some (b, .inr (5, fs))) (v : Int32) (w2 : S → va_W) (hM : KX l yX5_simplify wsX5_simplify rX5_simplify g [.ref b, .int p1, .int p2] wc (.inr (some (.int v), w2)) 15 401) : KE (S := S) l yL_simplify wsL_simplify rL_simplify g [.ref b, .int p1, .int p2] wc (some (.int v)) w2 15 401 := by
  refine KE.ofH (nL := 5) (by decide) rfl (Nat.le_of_ble_eq_true rfl) ?_
  intro p e s m args below meth c A ls C htab X hl
  have C : CT g p s m args meth c RL cL_simplify 5 (some .int) wsL_simplify A := C
  have hx := C.1
  have hb := C.2.1
  have hl : lv_has ls 5 [(0, .ref b), (1, .int p1), (2, .int p2)] := hl
  refine lv_aload_n hx hb dL_simplify_0 rfl (lv_at hl 0 rfl) ?_
  refine lv_iload_n hx hb dL_simplify_1 rfl (lv_at hl 1 rfl) ?_
  refine lv_iload_n hx hb dL_simplify_2 rfl (lv_at hl 2 rfl) ?_
  refine kxV [] (pm_wh _) C X hM (cw_L_simplify C) 0 (ci := 5) he rfl (As := [.int p1, .int p2]) rfl hl (rest := []) rfl (Nat.le_of_ble_eq_true rfl) (st2 := [.int v]) rfl dL_simplify_3 ⟨Nat.le_of_ble_eq_true rfl, Nat.le_of_ble_eq_true rfl⟩ (w3 := w2) (fun _ => pm_wi _) (fun t H locs X => ?_)
  refine lv_istore_n (lv' := [(3, .int v), (0, .ref b), (1, .int p1), (2, .int p2)]) hx hb dL_simplify_6 rfl hl (by decide) rfl (fun ls hl => ?_)
  refine lv_goto (tgt := 20) hx hb dL_simplify_7 (by decide) ?_
  refine lv_iload_n hx hb dL_simplify_20 rfl (lv_at hl 0 rfl) ?_
  exact keiret (w2 := w2) t C X dL_simplify_21
noncomputable def fL_simplify (p1 : Int32) (p2 : Int32) (u : ShS) (ps : PS) (hs : HS) : Option (Int32 × ShS × PS × HS) := (fX5_simplify p1 p2 u ps hs).bind fun q => Sum.elim (fun (E, u2, ps2, hs2) => if E = 0 then some ((-31), u2, ps2, hs2) else if E = 1 then some ((-32), u2, ps2, hs2) else none) (fun r => some r) q
set_option maxRecDepth 100000 in
theorem kL_simplify (l : Launch) (hl9 : l.stackTraces = false) (g : kG) (D : Nat → Nat → Nat) (R : kAd) (p1 : Int32) (p2 : Int32) (u : ShS) (ts : TS) (bs : SS) (ps : PS) (hs : HS) (ns : NS) (o1 : Int32) (o2 : ShS) (o3 : PS) (o4 : HS) (hm : fL_simplify p1 p2 u ps hs = some (o1, o2, o3, o4)) : KE (S := kAd) l yL_simplify wsL_simplify rL_simplify g [.ref (D 0 0), .int p1, .int p2] (wB g D R u ts bs ps hs ns) (some (.int o1)) (fun R => wB g D R o2 ts bs o3 o4 ns) 15 401 := by
  obtain ⟨q, h1, h2⟩ := bnd hm
  have hM := kX5_simplify l hl9 g D R p1 p2 u ts bs ps hs ns q h1
  rcases q with ⟨E, u2, ps2, hs2⟩ | ⟨v, u2, ps2, hs2⟩
  · have h2 : (if E = 0 then some ((-31), u2, ps2, hs2) else if E = 1 then some ((-32), u2, ps2, hs2) else none) = some (o1, o2, o3, o4) := h2
    by_cases e0 : E = 0
    · subst e0
      rw [if_pos rfl] at h2
      cases sm h2
      exact kLt_simplify_0 l g (D 0 0) p1 p2 _ _ rfl _ hM
    rw [if_neg e0] at h2
    by_cases e1 : E = 1
    · subst e1
      rw [if_pos rfl] at h2
      cases sm h2
      exact kLt_simplify_1 l g (D 0 0) p1 p2 _ _ rfl _ hM
    rw [if_neg e1] at h2
    cases h2
  · have h2 : some (v, u2, ps2, hs2) = some (o1, o2, o3, o4) := h2
    cases sm h2
    exact kLr_simplify l g (D 0 0) p1 p2 _ _ rfl _ _ hM
abbrev rL_bake : Room := { frames := 9, cells := 14, slots := 395, locals := 276 }
theorem cw_L_bake {p : Program} {s : State} {m : MethodId} {args : Array Value} {meth : Method} {c : Code} {g : kG} {A : Nat → Prop} (C : CT g p s m args meth c RL cL_bake 4 (some .int) wsL_bake A) : CallW rL_bake s args RL RX5 31 yX5_bake cX5_bake 4 (some .int) wsX5_bake rX5_bake 14 395 1 := cwV 1 C.2.2.2.2.2.1 gL_bake_X5_bake rfl rfl rfl (by decide +kernel) ⟨Nat.le_of_ble_eq_true rfl, Nat.le_of_ble_eq_true rfl⟩
theorem lk_L_bake_0 : (Cond.classLink RL 15 (kEx 0)) ∈ wsL_bake := by decide +kernel
set_option maxRecDepth 100000 in
set_option maxHeartbeats 4000000 in
theorem kLt_bake_0 {S : Type} (l : Launch) (g : kG) (b : Nat) (p1 : Int32) (fs : List Value) (wc : va_W) (he : wc[0]? = some (b, .inr (5, fs))) (w2 : S → va_W) (hM : KX l yX5_bake wsX5_bake rX5_bake g [.ref b, .int p1] wc (.inl (0, w2)) 14 395) : KE (S := S) l yL_bake wsL_bake rL_bake g [.ref b, .int p1] wc (some (.int (-31))) w2 14 395 := by
  refine KE.ofH (nL := 4) (by decide) rfl (Nat.le_of_ble_eq_true rfl) ?_
  intro p e s m args below meth c A ls C htab X hl
  have C : CT g p s m args meth c RL cL_bake 4 (some .int) wsL_bake A := C
  have hx := C.1
  have hb := C.2.1
  have hl : lv_has ls 4 [(0, .ref b), (1, .int p1)] := hl
  refine lv_aload_n hx hb dL_bake_0 rfl (lv_at hl 0 rfl) ?_
  refine lv_iload_n hx hb dL_bake_1 rfl (lv_at hl 1 rfl) ?_
  refine kxVc [] (pm_wh _) C X hM (cw_L_bake C) 0 (ci := 5) he rfl (As := [.int p1]) rfl hl (rest := []) rfl (Nat.le_of_ble_eq_true rfl) dL_bake_2 ⟨Nat.le_of_ble_eq_true rfl, Nat.le_of_ble_eq_true rfl⟩ [] ⟨0, 6, 9, 15⟩ [] (by rw [htab]; rfl) (fun z hz => absurd hz List.not_mem_nil) (by decide) (by decide) lk_L_bake_0 (by decide) (fun t q H locs X => ?_)
  refine lv_astore_n (lv' := [(3, .ref q), (0, .ref b), (1, .int p1)]) hx hb dL_bake_9 rfl hl (by decide) rfl (fun ls hl => ?_)
  refine lv_bipush (v := (-31)) hx hb dL_bake_10 (by decide) ?_
  exact keiret (w2 := w2) t C X dL_bake_12
set_option maxRecDepth 100000 in
set_option maxHeartbeats 4000000 in
theorem kLr_bake {S : Type} (l : Launch) (g : kG) (b : Nat) (p1 : Int32) (fs : List Value) (wc : va_W) (he : wc[0]? = some (b, .inr (5, fs))) (v : Int32) (w2 : S → va_W) (hM : KX l yX5_bake wsX5_bake rX5_bake g [.ref b, .int p1] wc (.inr (some (.int v), w2)) 14 395) : KE (S := S) l yL_bake wsL_bake rL_bake g [.ref b, .int p1] wc (some (.int v)) w2 14 395 := by
  refine KE.ofH (nL := 4) (by decide) rfl (Nat.le_of_ble_eq_true rfl) ?_
  intro p e s m args below meth c A ls C htab X hl
  have C : CT g p s m args meth c RL cL_bake 4 (some .int) wsL_bake A := C
  have hx := C.1
  have hb := C.2.1
  have hl : lv_has ls 4 [(0, .ref b), (1, .int p1)] := hl
  refine lv_aload_n hx hb dL_bake_0 rfl (lv_at hl 0 rfl) ?_
  refine lv_iload_n hx hb dL_bake_1 rfl (lv_at hl 1 rfl) ?_
  refine kxV [] (pm_wh _) C X hM (cw_L_bake C) 0 (ci := 5) he rfl (As := [.int p1]) rfl hl (rest := []) rfl (Nat.le_of_ble_eq_true rfl) (st2 := [.int v]) rfl dL_bake_2 ⟨Nat.le_of_ble_eq_true rfl, Nat.le_of_ble_eq_true rfl⟩ (w3 := w2) (fun _ => pm_wi _) (fun t H locs X => ?_)
  refine lv_istore_n (lv' := [(2, .int v), (0, .ref b), (1, .int p1)]) hx hb dL_bake_5 rfl hl (by decide) rfl (fun ls hl => ?_)
  refine lv_goto (tgt := 13) hx hb dL_bake_6 (by decide) ?_
  refine lv_iload_n hx hb dL_bake_13 rfl (lv_at hl 0 rfl) ?_
  exact keiret (w2 := w2) t C X dL_bake_14
noncomputable def fL_bake (p1 : Int32) (u : ShS) (hs : HS) : Option (Int32 × ShS × HS) := (fX5_bake p1 u hs).bind fun q => Sum.elim (fun (E, u2, hs2) => if E = 0 then some ((-31), u2, hs2) else none) (fun r => some r) q
set_option maxRecDepth 100000 in
theorem kL_bake (l : Launch) (hl9 : l.stackTraces = false) (g : kG) (D : Nat → Nat → Nat) (R : kAd) (p1 : Int32) (u : ShS) (ts : TS) (bs : SS) (ps : PS) (hs : HS) (ns : NS) (o1 : Int32) (o2 : ShS) (o3 : HS) (hm : fL_bake p1 u hs = some (o1, o2, o3)) : KE (S := kAd) l yL_bake wsL_bake rL_bake g [.ref (D 0 0), .int p1] (wB g D R u ts bs ps hs ns) (some (.int o1)) (fun R => wB g D R o2 ts bs ps o3 ns) 14 395 := by
  obtain ⟨q, h1, h2⟩ := bnd hm
  have hM := kX5_bake l hl9 g D R p1 u ts bs ps hs ns q h1
  rcases q with ⟨E, u2, hs2⟩ | ⟨v, u2, hs2⟩
  · have h2 : (if E = 0 then some ((-31), u2, hs2) else none) = some (o1, o2, o3) := h2
    by_cases e0 : E = 0
    · subst e0
      rw [if_pos rfl] at h2
      cases sm h2
      exact kLt_bake_0 l g (D 0 0) p1 _ _ rfl _ hM
    rw [if_neg e0] at h2
    cases h2
  · have h2 : some (v, u2, hs2) = some (o1, o2, o3) := h2
    cases sm h2
    exact kLr_bake l g (D 0 0) p1 _ _ rfl _ _ hM
abbrev rL_set : Room := { frames := 8, cells := 15, slots := 401, locals := 276 }
theorem cw_L_set {p : Program} {s : State} {m : MethodId} {args : Array Value} {meth : Method} {c : Code} {g : kG} {A : Nat → Prop} (C : CT g p s m args meth c RL cL_set 5 (some .int) wsL_set A) : CallW rL_set s args RL RX5 35 yX5_set cX5_set 4 (some .int) wsX5_set rX5_set 15 401 2 := cwV 2 C.2.2.2.2.2.1 gL_set_X5_set rfl rfl rfl (by decide +kernel) ⟨Nat.le_of_ble_eq_true rfl, Nat.le_of_ble_eq_true rfl⟩
theorem lk_L_set_0 : (Cond.classLink RL 15 (kEx 0)) ∈ wsL_set := by decide +kernel
theorem lk_L_set_1 : (Cond.classLink RL 17 (kEx 1)) ∈ wsL_set := by decide +kernel
set_option maxRecDepth 100000 in
set_option maxHeartbeats 4000000 in
theorem kLt_set_0 {S : Type} (l : Launch) (g : kG) (b : Nat) (p1 : Int32) (p2 : Int32) (fs : List Value) (wc : va_W) (he : wc[0]? = some (b, .inr (5, fs))) (w2 : S → va_W) (hM : KX l yX5_set wsX5_set rX5_set g [.ref b, .int p1, .int p2] wc (.inl (0, w2)) 15 401) : KE (S := S) l yL_set wsL_set rL_set g [.ref b, .int p1, .int p2] wc (some (.int (-31))) w2 15 401 := by
  refine KE.ofH (nL := 5) (by decide) rfl (Nat.le_of_ble_eq_true rfl) ?_
  intro p e s m args below meth c A ls C htab X hl
  have C : CT g p s m args meth c RL cL_set 5 (some .int) wsL_set A := C
  have hx := C.1
  have hb := C.2.1
  have hl : lv_has ls 5 [(0, .ref b), (1, .int p1), (2, .int p2)] := hl
  refine lv_aload_n hx hb dL_set_0 rfl (lv_at hl 0 rfl) ?_
  refine lv_iload_n hx hb dL_set_1 rfl (lv_at hl 1 rfl) ?_
  refine lv_iload_n hx hb dL_set_2 rfl (lv_at hl 2 rfl) ?_
  refine kxVc [] (pm_wh _) C X hM (cw_L_set C) 0 (ci := 5) he rfl (As := [.int p1, .int p2]) rfl hl (rest := []) rfl (Nat.le_of_ble_eq_true rfl) dL_set_3 ⟨Nat.le_of_ble_eq_true rfl, Nat.le_of_ble_eq_true rfl⟩ [] ⟨0, 7, 10, 15⟩ [⟨0, 7, 15, 17⟩] (by rw [htab]; rfl) (fun z hz => absurd hz List.not_mem_nil) (by decide) (by decide) lk_L_set_0 (by decide) (fun t q H locs X => ?_)
  refine lv_astore (lv' := [(4, .ref q), (0, .ref b), (1, .int p1), (2, .int p2)]) hx hb dL_set_10 hl (by decide) rfl (fun ls hl => ?_)
  refine lv_bipush (v := (-31)) hx hb dL_set_12 (by decide) ?_
  exact keiret (w2 := w2) t C X dL_set_14
set_option maxRecDepth 100000 in
set_option maxHeartbeats 4000000 in
theorem kLt_set_1 {S : Type} (l : Launch) (g : kG) (b : Nat) (p1 : Int32) (p2 : Int32) (fs : List Value) (wc : va_W) (he : wc[0]? = some (b, .inr (5, fs))) (w2 : S → va_W) (hM : KX l yX5_set wsX5_set rX5_set g [.ref b, .int p1, .int p2] wc (.inl (1, w2)) 15 401) : KE (S := S) l yL_set wsL_set rL_set g [.ref b, .int p1, .int p2] wc (some (.int (-32))) w2 15 401 := by
  refine KE.ofH (nL := 5) (by decide) rfl (Nat.le_of_ble_eq_true rfl) ?_
  intro p e s m args below meth c A ls C htab X hl
  have C : CT g p s m args meth c RL cL_set 5 (some .int) wsL_set A := C
  have hx := C.1
  have hb := C.2.1
  have hl : lv_has ls 5 [(0, .ref b), (1, .int p1), (2, .int p2)] := hl
  refine lv_aload_n hx hb dL_set_0 rfl (lv_at hl 0 rfl) ?_
  refine lv_iload_n hx hb dL_set_1 rfl (lv_at hl 1 rfl) ?_
  refine lv_iload_n hx hb dL_set_2 rfl (lv_at hl 2 rfl) ?_
  refine kxVc [] (pm_wh _) C X hM (cw_L_set C) 0 (ci := 5) he rfl (As := [.int p1, .int p2]) rfl hl (rest := []) rfl (Nat.le_of_ble_eq_true rfl) dL_set_3 ⟨Nat.le_of_ble_eq_true rfl, Nat.le_of_ble_eq_true rfl⟩ [⟨0, 7, 10, 15⟩] ⟨0, 7, 15, 17⟩ [] (by rw [htab]; rfl) (List.forall_mem_cons.mpr ⟨⟨by decide, kEx 0, lk_L_set_0, by decide⟩, List.forall_mem_nil _⟩) (by decide) (by decide) lk_L_set_1 (by decide) (fun t q H locs X => ?_)
  refine lv_astore (lv' := [(4, .ref q), (0, .ref b), (1, .int p1), (2, .int p2)]) hx hb dL_set_15 hl (by decide) rfl (fun ls hl => ?_)
  refine lv_bipush (v := (-32)) hx hb dL_set_17 (by decide) ?_
  exact keiret (w2 := w2) t C X dL_set_19
set_option maxRecDepth 100000 in
set_option maxHeartbeats 4000000 in
theorem kLr_set {S : Type} (l : Launch) (g : kG) (b : Nat) (p1 : Int32) (p2 : Int32) (fs : List Value) (wc : va_W) (he : wc[0]? = some (b, .inr (5, fs))) (v : Int32) (w2 : S → va_W) (hM : KX l yX5_set wsX5_set rX5_set g [.ref b, .int p1, .int p2] wc (.inr (some (.int v), w2)) 15 401) : KE (S := S) l yL_set wsL_set rL_set g [.ref b, .int p1, .int p2] wc (some (.int v)) w2 15 401 := by
  refine KE.ofH (nL := 5) (by decide) rfl (Nat.le_of_ble_eq_true rfl) ?_
  intro p e s m args below meth c A ls C htab X hl
  have C : CT g p s m args meth c RL cL_set 5 (some .int) wsL_set A := C
  have hx := C.1
  have hb := C.2.1
  have hl : lv_has ls 5 [(0, .ref b), (1, .int p1), (2, .int p2)] := hl
  refine lv_aload_n hx hb dL_set_0 rfl (lv_at hl 0 rfl) ?_
  refine lv_iload_n hx hb dL_set_1 rfl (lv_at hl 1 rfl) ?_
  refine lv_iload_n hx hb dL_set_2 rfl (lv_at hl 2 rfl) ?_
  refine kxV [] (pm_wh _) C X hM (cw_L_set C) 0 (ci := 5) he rfl (As := [.int p1, .int p2]) rfl hl (rest := []) rfl (Nat.le_of_ble_eq_true rfl) (st2 := [.int v]) rfl dL_set_3 ⟨Nat.le_of_ble_eq_true rfl, Nat.le_of_ble_eq_true rfl⟩ (w3 := w2) (fun _ => pm_wi _) (fun t H locs X => ?_)
  refine lv_istore_n (lv' := [(3, .int v), (0, .ref b), (1, .int p1), (2, .int p2)]) hx hb dL_set_6 rfl hl (by decide) rfl (fun ls hl => ?_)
  refine lv_goto (tgt := 20) hx hb dL_set_7 (by decide) ?_
  refine lv_iload_n hx hb dL_set_20 rfl (lv_at hl 0 rfl) ?_
  exact keiret (w2 := w2) t C X dL_set_21
noncomputable def fL_set (p1 : Int32) (p2 : Int32) (u : ShS) (hs : HS) : Option (Int32 × ShS × HS) := (fX5_set p1 p2 u hs).bind fun q => Sum.elim (fun (E, u2, hs2) => if E = 0 then some ((-31), u2, hs2) else if E = 1 then some ((-32), u2, hs2) else none) (fun r => some r) q
set_option maxRecDepth 100000 in
theorem kL_set (l : Launch) (hl9 : l.stackTraces = false) (g : kG) (D : Nat → Nat → Nat) (R : kAd) (p1 : Int32) (p2 : Int32) (u : ShS) (ts : TS) (bs : SS) (ps : PS) (hs : HS) (ns : NS) (o1 : Int32) (o2 : ShS) (o3 : HS) (hm : fL_set p1 p2 u hs = some (o1, o2, o3)) : KE (S := kAd) l yL_set wsL_set rL_set g [.ref (D 0 0), .int p1, .int p2] (wB g D R u ts bs ps hs ns) (some (.int o1)) (fun R => wB g D R o2 ts bs ps o3 ns) 15 401 := by
  obtain ⟨q, h1, h2⟩ := bnd hm
  have hM := kX5_set l hl9 g D R p1 p2 u ts bs ps hs ns q h1
  rcases q with ⟨E, u2, hs2⟩ | ⟨v, u2, hs2⟩
  · have h2 : (if E = 0 then some ((-31), u2, hs2) else if E = 1 then some ((-32), u2, hs2) else none) = some (o1, o2, o3) := h2
    by_cases e0 : E = 0
    · subst e0
      rw [if_pos rfl] at h2
      cases sm h2
      exact kLt_set_0 l g (D 0 0) p1 p2 _ _ rfl _ hM
    rw [if_neg e0] at h2
    by_cases e1 : E = 1
    · subst e1
      rw [if_pos rfl] at h2
      cases sm h2
      exact kLt_set_1 l g (D 0 0) p1 p2 _ _ rfl _ hM
    rw [if_neg e1] at h2
    cases h2
  · have h2 : some (v, u2, hs2) = some (o1, o2, o3) := h2
    cases sm h2
    exact kLr_set l g (D 0 0) p1 p2 _ _ rfl _ _ hM
