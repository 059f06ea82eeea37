theorem pm_l1 {α : Type} {x y z : List α} : (x ++ (y ++ z)).Perm ((x ++ y) ++ z) := by rw [List.append_assoc]
theorem pm_l2 {α : Type} {x y z : List α} : (z ++ (x ++ y)).Perm (x ++ (y ++ z)) := by
  rw [← List.append_assoc x y z]
  exact List.perm_append_comm
theorem pm_l3 {α : Type} {x y z : List α} : (x ++ (y ++ z)).Perm (z ++ (x ++ y)) := by
  rw [← List.append_assoc x y z]
  exact List.perm_append_comm
theorem pm_l4 {α : Type} {x y z : List α} : ((x ++ y) ++ z).Perm (x ++ (y ++ z)) := by rw [List.append_assoc]
theorem pm_l5 {α : Type} {x y z : List α} : (x ++ (y ++ z)).Perm (y ++ (x ++ z)) := List.perm_append_comm_assoc x y z
theorem pm_l6 {α : Type} {x y z : List α} : ((x ++ z) ++ y).Perm (x ++ (y ++ z)) := by
  rw [List.append_assoc]
  exact List.Perm.append_left x List.perm_append_comm
theorem cw_law_X6_thrown {p : Program} {s : State} {m : MethodId} {b : Nat} {meth : Method} {c : Code} {g : kG} (C : CT g p s m #[.ref b] meth c RL cL_law 9 (some .boolean) wsL_law (fun q : Nat => s.heap.size ≤ q)) : CallW room_1 s #[.ref b] RL RX6 97 yX6_thrown cX6_thrown 1 (some .int) wsX6_thrown rX6_thrown 0 0 0 := cwV 0 C.2.2.2.2.2.1 gL_law_X6_thrown rfl rfl rfl (by decide +kernel) ⟨Nat.le_of_ble_eq_true rfl, Nat.le_of_ble_eq_true rfl⟩
section LA
variable {p : Program} {l : Launch} {e : Env} {s : State} {m : MethodId} {below : List Frame} {meth : Method} {c : Code} {H : Heap} {locs : List Loc} {cells slots : Nat} {Q : State → Prop}
variable {g : kG} {b L : Nat} {xs : Nat → Int32} {a : Nat → Nat} {D : Nat → Nat → Nat} {R : kAd} {u : ShS} {ts : TS} {bs : SS} {ps : PS} {hs : HS} {ns : NS} {mm : MS} {o : Nat} {f : Nat → Int64} {i : Int32} {ls : Array Slot}
theorem cw_law_L_stroke {p : Program} {s : State} {m : MethodId} {b : Nat} {meth : Method} {c : Code} {g : kG} (C : CT g p s m #[.ref b] meth c RL cL_law 9 (some .boolean) wsL_law (fun q : Nat => s.heap.size ≤ q)) : vx_CSW room_1 s #[.ref b] RL 91 yL_stroke cL_stroke 7 (some .int) [(0, 14, 17, 13), (0, 14, 21, 15)] wsL_stroke rL_stroke 18 419 6 := vx_cwSW 6 C.2.2.2.2.2.1 gL_law_L_stroke rfl rfl rfl (by decide +kernel) ⟨Nat.le_of_ble_eq_true rfl, Nat.le_of_ble_eq_true rfl⟩
theorem cw_law_X6_stroke {p : Program} {s : State} {m : MethodId} {b : Nat} {meth : Method} {c : Code} {g : kG} (C : CT g p s m #[.ref b] meth c RL cL_law 9 (some .boolean) wsL_law (fun q : Nat => s.heap.size ≤ q)) : CallW room_1 s #[.ref b] RL RX6 96 yX6_stroke cX6_stroke 6 (some .int) wsX6_stroke rX6_stroke 0 0 4 := cwV 4 C.2.2.2.2.2.1 gL_law_X6_stroke rfl rfl rfl (by decide +kernel) ⟨Nat.le_of_ble_eq_true rfl, Nat.le_of_ble_eq_true rfl⟩
set_option maxRecDepth 100000 in
set_option maxHeartbeats 4000000 in
theorem law_stroke (hl9 : l.stackTraces = false) (C : CT g p s m #[.ref b] meth c RL cL_law 9 (some .boolean) wsL_law (fun q : Nat => s.heap.size ≤ q)) (hX : va_X b L xs s s.heap) (hbl : b < s.heap.size) (hi : ∀ k : Int32, k = 1 ∨ k = 2 ∨ k = 3 ∨ k = 4 ∨ k = 5 → vp_in (i + k) L) (G : GR u ts hs ns mm) (X : ST g (fun q : Nat => s.heap.size ≤ q) s H locs (wOut g o f ++ (wB g D R u ts bs ps hs ns ++ wM g a mm))) (hl : lv_has ls 9 [(0, .ref b), (1, .ref (D 0 0)), (2, .ref (a 0)), (3, .ref o), (4, .int i)]) (hfit : cells + 20 ≤ 601024 ∧ slots + 420 ≤ 7293034) (kk : ∀ (H : Heap) (locs : List Loc) (ls : Array Slot) (R : kAd) (u : ShS) (ts : TS) (bs : SS) (ps : PS) (hs : HS) (ns : NS) (mm : MS) (f : Nat → Int64), GR u ts hs ns mm → ST g (fun q : Nat => s.heap.size ≤ q) s H locs (wOut g o f ++ (wB g D R u ts bs ps hs ns ++ wM g a mm)) → lv_has ls 9 [(0, .ref b), (1, .ref (D 0 0)), (2, .ref (a 0)), (3, .ref o), (4, .int i)] → W p l e room_1 s m #[Value.ref b] below meth c H locs (cells + 20) (slots + 420) Q (F0 m 1731 ls [])) : W p l e room_1 s m #[Value.ref b] below meth c H locs cells slots Q (F0 m 156 ls []) := by
  have hx := C.1
  have hb := C.2.1
  have hbA : ¬ (fun q : Nat => s.heap.size ≤ q) b := Nat.not_le.mpr hbl
  refine lv_aload_n hx hb dL_law_156 rfl (lv_at hl 1 rfl) ?_
  refine lv_aload_n hx hb dL_law_157 rfl (lv_at hl 0 rfl) ?_
  refine lv_iload hx hb dL_law_158 (lv_at hl 4 rfl) ?_
  refine lv_iconst (v := 1) hx hb dL_law_160 (by decide) ?_
  refine lv_iadd hx hb dL_law_161 ?_
  refine va_sld hx hb hX hbl hbA X.2.2 (hi 1 (by decide)) dL_law_162 ?_
  refine lv_aload_n hx hb dL_law_163 rfl (lv_at hl 0 rfl) ?_
  refine lv_iload hx hb dL_law_164 (lv_at hl 4 rfl) ?_
  refine lv_iconst (v := 2) hx hb dL_law_166 (by decide) ?_
  refine lv_iadd hx hb dL_law_167 ?_
  refine va_sld hx hb hX hbl hbA X.2.2 (hi 2 (by decide)) dL_law_168 ?_
  refine lv_aload_n hx hb dL_law_169 rfl (lv_at hl 0 rfl) ?_
  refine lv_iload hx hb dL_law_170 (lv_at hl 4 rfl) ?_
  refine lv_iconst (v := 3) hx hb dL_law_172 (by decide) ?_
  refine lv_iadd hx hb dL_law_173 ?_
  refine va_sld hx hb hX hbl hbA X.2.2 (hi 3 (by decide)) dL_law_174 ?_
  refine lv_aload_n hx hb dL_law_175 rfl (lv_at hl 0 rfl) ?_
  refine lv_iload hx hb dL_law_176 (lv_at hl 4 rfl) ?_
  refine lv_iconst (v := 4) hx hb dL_law_178 (by decide) ?_
  refine lv_iadd hx hb dL_law_179 ?_
  refine va_sld hx hb hX hbl hbA X.2.2 (hi 4 (by decide)) dL_law_180 ?_
  refine lv_aload_n hx hb dL_law_181 rfl (lv_at hl 3 rfl) ?_
  obtain ⟨kv, f', w2, bb, m', e1, hK, e2, e3, e4⟩ := st_stroke l hl9 g D R u ts bs ps hs ns mm G (xs (i + 1).toNatClampNeg) (xs (i + 2).toNatClampNeg) (xs (i + 3).toNatClampNeg) (xs (i + 4).toNatClampNeg) o f
  refine keSW (wM g a mm) pm_l1 C X hK (cw_law_L_stroke C) (As := [.ref (D 0 0), .int (xs (i + 1).toNatClampNeg), .int (xs (i + 2).toNatClampNeg), .int (xs (i + 3).toNatClampNeg), .int (xs (i + 4).toNatClampNeg), .ref o]) rfl hl (rest := []) rfl (Nat.le_of_ble_eq_true rfl) (st2 := [.int kv]) rfl dL_law_182 ⟨by have := hfit.1; show _ ≤ 601024; omega, by have := hfit.2; show _ ≤ 7293034; omega⟩ (w4 := fun t => wOut g o f' ++ (w2 t ++ wM g a mm)) (fun _ => pm_l2) (fun t H locs X => ?_)
  clear hK
  refine lv_istore (lv' := [(5, .int kv), (0, .ref b), (1, .ref (D 0 0)), (2, .ref (a 0)), (3, .ref o), (4, .int i)]) hx hb dL_law_185 hl (by decide) rfl (fun ls hl => ?_)
  refine lv_aload_n hx hb dL_law_187 rfl (lv_at hl 3 rfl) ?_
  refine lv_aload_n hx hb dL_law_188 rfl (lv_at hl 1 rfl) ?_
  refine lv_iload hx hb dL_law_189 (lv_at hl 5 rfl) ?_
  refine lv_iconst (v := 1) hx hb dL_law_191 (by decide) ?_
  refine lv_iadd hx hb dL_law_192 ?_
  refine va_sld hx hb hX hbl hbA X.2.2 (hi 1 (by decide)) dL_law_193 ?_
  refine lv_aload_n hx hb dL_law_194 rfl (lv_at hl 1 rfl) ?_
  refine lv_iload hx hb dL_law_195 (lv_at hl 5 rfl) ?_
  refine lv_iconst (v := 2) hx hb dL_law_197 (by decide) ?_
  refine lv_iadd hx hb dL_law_198 ?_
  refine va_sld hx hb hX hbl hbA X.2.2 (hi 2 (by decide)) dL_law_199 ?_
  refine lv_aload_n hx hb dL_law_200 rfl (lv_at hl 1 rfl) ?_
  refine lv_iload hx hb dL_law_201 (lv_at hl 5 rfl) ?_
  refine lv_iconst (v := 3) hx hb dL_law_203 (by decide) ?_
  refine lv_iadd hx hb dL_law_204 ?_
  refine va_sld hx hb hX hbl hbA X.2.2 (hi 3 (by decide)) dL_law_205 ?_
  refine lv_aload_n hx hb dL_law_206 rfl (lv_at hl 1 rfl) ?_
  refine lv_iload hx hb dL_law_207 (lv_at hl 5 rfl) ?_
  refine lv_iconst (v := 4) hx hb dL_law_209 (by decide) ?_
  refine lv_iadd hx hb dL_law_210 ?_
  refine va_sld hx hb hX hbl hbA X.2.2 (hi 4 (by decide)) dL_law_211 ?_
  refine kVp (wOut g o f' ++ w2 t) pm_l3 C X (kX6_stroke l g a (xs (i + 1).toNatClampNeg) (xs (i + 2).toNatClampNeg) (xs (i + 3).toNatClampNeg) (xs (i + 4).toNatClampNeg) mm bb m' e1) (cw_law_X6_stroke C) 0 (ci := 6) rfl rfl (As := [.int (xs (i + 1).toNatClampNeg), .int (xs (i + 2).toNatClampNeg), .int (xs (i + 3).toNatClampNeg), .int (xs (i + 4).toNatClampNeg)]) rfl hl (rest := []) rfl (Nat.le_of_ble_eq_true rfl) (st2 := [.int bb]) rfl dL_law_212 ⟨by have := hfit.1; show _ ≤ 601024; omega, by have := hfit.2; show _ ≤ 7293034; omega⟩ (w3 := wOut g o f' ++ (w2 t ++ wM g a m')) pm_l4 (fun H locs X => ?_)
  refine lv_istore (lv' := [(6, .int bb), (5, .int kv), (0, .ref b), (1, .ref (D 0 0)), (2, .ref (a 0)), (3, .ref o), (4, .int i)]) hx hb dL_law_215 hl (by decide) rfl (fun ls hl => ?_)
  refine lv_aload_n hx hb dL_law_217 rfl (lv_at hl 4 rfl) ?_
  refine kVp (wOut g o f' ++ w2 t) pm_l3 C X (kX6_thrown l g a m' kv (by rw [← e2]; rfl)) (cw_law_X6_thrown C) 0 (ci := 6) rfl rfl (As := []) rfl hl (rest := []) rfl (Nat.le_of_ble_eq_true rfl) (st2 := [.int kv]) rfl dL_law_218 ⟨by have := hfit.1; show _ ≤ 601024; omega, by have := hfit.2; show _ ≤ 7293034; omega⟩ (w3 := wOut g o f' ++ (w2 t ++ wM g a m')) pm_l4 (fun H locs X => ?_)
  refine lv_iload hx hb dL_law_221 (lv_at hl 1 rfl) ?_
  refine lv_icmp_eq (tgt := 228) hx hb dL_law_223 (by decide) (fun _ => ?_) (fun hc => absurd rfl hc)
  refine lv_iload hx hb dL_law_228 (lv_at hl 1 rfl) ?_
  obtain ⟨R2, u2, ts2, bs2, ps2, hs2, ns2, hwe, G2⟩ := e4 t
  rw [hwe] at X
  have KF : ∀ (H : Heap) (locs : List Loc), ST g (fun q : Nat => s.heap.size ≤ q) s H locs (wOut g o f' ++ (wB g D R2 u2 ts2 bs2 ps2 hs2 ns2 ++ wM g a m')) → W p l e room_1 s m #[Value.ref b] below meth c H locs (cells + 18 + 0 + 0) (slots + 419 + 0 + 0) Q (F0 m 245 ls []) := by
    intro H locs X
    refine lv_goto (tgt := 1731) hx hb dL_law_245 (by decide) ?_
    refine W.widen (k := cells + 20) (n := slots + 420) (by omega) (by omega) ?_
    exact kk _ _ _ R2 u2 ts2 bs2 ps2 hs2 ns2 m' f' G2 X (lv_sub hl [2, 3, 4, 5, 6] rfl)
  refine lv_if_ne (tgt := 245) hx hb dL_law_230 (by decide) (fun _ => KF _ _ X) (fun hc => ?_)
  refine lv_aload_n hx hb dL_law_233 rfl (lv_at hl 5 rfl) ?_
  refine lv_iconst (v := 0) hx hb dL_law_234 (by decide) ?_
  refine klald C X 0 rfl (i := 0) (by decide) dL_law_235 ?_
  refine lv_iload hx hb dL_law_236 (lv_at hl 0 rfl) ?_
  refine lv_i2l (v := bb.toInt64) hx hb dL_law_238 rfl ?_
  exact klcmp_eq (tgt := 245) hx hb dL_law_239 dL_law_240 (by decide) (fun _ => KF _ _ X) (fun q => absurd (e3 hc) q)
theorem cw_law_L_draw {p : Program} {s : State} {m : MethodId} {b : Nat} {meth : Method} {c : Code} {g : kG} (C : CT g p s m #[.ref b] meth c RL cL_law 9 (some .boolean) wsL_law (fun q : Nat => s.heap.size ≤ q)) : vx_CSW room_1 s #[.ref b] RL 100 yL_draw cL_draw 3 (some .int) [(0, 8, 11, 13), (0, 8, 14, 15)] wsL_draw rL_draw 14 395 2 := vx_cwSW 2 C.2.2.2.2.2.1 gL_law_L_draw rfl rfl rfl (by decide +kernel) ⟨Nat.le_of_ble_eq_true rfl, Nat.le_of_ble_eq_true rfl⟩
theorem cw_law_X6_draw {p : Program} {s : State} {m : MethodId} {b : Nat} {meth : Method} {c : Code} {g : kG} (C : CT g p s m #[.ref b] meth c RL cL_law 9 (some .boolean) wsL_law (fun q : Nat => s.heap.size ≤ q)) : CallW room_1 s #[.ref b] RL RX6 103 yX6_draw cX6_draw 4 (some .int) wsX6_draw rX6_draw 0 0 0 := cwV 0 C.2.2.2.2.2.1 gL_law_X6_draw rfl rfl rfl (by decide +kernel) ⟨Nat.le_of_ble_eq_true rfl, Nat.le_of_ble_eq_true rfl⟩
set_option maxRecDepth 100000 in
set_option maxHeartbeats 4000000 in
theorem law_draw (hl9 : l.stackTraces = false) (C : CT g p s m #[.ref b] meth c RL cL_law 9 (some .boolean) wsL_law (fun q : Nat => s.heap.size ≤ q)) (hX : va_X b L xs s s.heap) (hbl : b < s.heap.size) (hi : ∀ k : Int32, k = 1 ∨ k = 2 ∨ k = 3 ∨ k = 4 ∨ k = 5 → vp_in (i + k) L) (G : GR u ts hs ns mm) (X : ST g (fun q : Nat => s.heap.size ≤ q) s H locs (wOut g o f ++ (wB g D R u ts bs ps hs ns ++ wM g a mm))) (hl : lv_has ls 9 [(0, .ref b), (1, .ref (D 0 0)), (2, .ref (a 0)), (3, .ref o), (4, .int i)]) (hfit : cells + 20 ≤ 601024 ∧ slots + 420 ≤ 7293034) (kk : ∀ (H : Heap) (locs : List Loc) (ls : Array Slot) (R : kAd) (u : ShS) (ts : TS) (bs : SS) (ps : PS) (hs : HS) (ns : NS) (mm : MS) (f : Nat → Int64), GR u ts hs ns mm → ST g (fun q : Nat => s.heap.size ≤ q) s H locs (wOut g o f ++ (wB g D R u ts bs ps hs ns ++ wM g a mm)) → lv_has ls 9 [(0, .ref b), (1, .ref (D 0 0)), (2, .ref (a 0)), (3, .ref o), (4, .int i)] → W p l e room_1 s m #[Value.ref b] below meth c H locs (cells + 20) (slots + 420) Q (F0 m 1731 ls [])) : W p l e room_1 s m #[Value.ref b] below meth c H locs cells slots Q (F0 m 248 ls []) := by
  have hx := C.1
  have hb := C.2.1
  have hbA : ¬ (fun q : Nat => s.heap.size ≤ q) b := Nat.not_le.mpr hbl
  refine lv_aload_n hx hb dL_law_248 rfl (lv_at hl 1 rfl) ?_
  refine lv_aload_n hx hb dL_law_249 rfl (lv_at hl 3 rfl) ?_
  obtain ⟨kv, f', w2, bb, m', e1, hK, e2, e3, e4⟩ := st_draw l hl9 g D R u ts bs ps hs ns mm G  o f
  refine keSW (wM g a mm) pm_l1 C X hK (cw_law_L_draw C) (As := [.ref (D 0 0), .ref o]) rfl hl (rest := []) rfl (Nat.le_of_ble_eq_true rfl) (st2 := [.int kv]) rfl dL_law_250 ⟨by have := hfit.1; show _ ≤ 601024; omega, by have := hfit.2; show _ ≤ 7293034; omega⟩ (w4 := fun t => wOut g o f' ++ (w2 t ++ wM g a mm)) (fun _ => pm_l2) (fun t H locs X => ?_)
  clear hK
  refine lv_istore (lv' := [(5, .int kv), (0, .ref b), (1, .ref (D 0 0)), (2, .ref (a 0)), (3, .ref o), (4, .int i)]) hx hb dL_law_253 hl (by decide) rfl (fun ls hl => ?_)
  refine lv_aload_n hx hb dL_law_255 rfl (lv_at hl 3 rfl) ?_
  refine kVp (wOut g o f' ++ w2 t) pm_l3 C X (kX6_draw l g a  mm bb m' e1) (cw_law_X6_draw C) 0 (ci := 6) rfl rfl (As := []) rfl hl (rest := []) rfl (Nat.le_of_ble_eq_true rfl) (st2 := [.int bb]) rfl dL_law_256 ⟨by have := hfit.1; show _ ≤ 601024; omega, by have := hfit.2; show _ ≤ 7293034; omega⟩ (w3 := wOut g o f' ++ (w2 t ++ wM g a m')) pm_l4 (fun H locs X => ?_)
  refine lv_istore (lv' := [(6, .int bb), (5, .int kv), (0, .ref b), (1, .ref (D 0 0)), (2, .ref (a 0)), (3, .ref o), (4, .int i)]) hx hb dL_law_259 hl (by decide) rfl (fun ls hl => ?_)
  refine lv_aload_n hx hb dL_law_261 rfl (lv_at hl 4 rfl) ?_
  refine kVp (wOut g o f' ++ w2 t) pm_l3 C X (kX6_thrown l g a m' kv (by rw [← e2]; rfl)) (cw_law_X6_thrown C) 0 (ci := 6) rfl rfl (As := []) rfl hl (rest := []) rfl (Nat.le_of_ble_eq_true rfl) (st2 := [.int kv]) rfl dL_law_262 ⟨by have := hfit.1; show _ ≤ 601024; omega, by have := hfit.2; show _ ≤ 7293034; omega⟩ (w3 := wOut g o f' ++ (w2 t ++ wM g a m')) pm_l4 (fun H locs X => ?_)
  refine lv_iload hx hb dL_law_265 (lv_at hl 1 rfl) ?_
  refine lv_icmp_eq (tgt := 272) hx hb dL_law_267 (by decide) (fun _ => ?_) (fun hc => absurd rfl hc)
  refine lv_iload hx hb dL_law_272 (lv_at hl 1 rfl) ?_
  obtain ⟨R2, u2, ts2, bs2, ps2, hs2, ns2, hwe, G2⟩ := e4 t
  rw [hwe] at X
  have KF : ∀ (H : Heap) (locs : List Loc), ST g (fun q : Nat => s.heap.size ≤ q) s H locs (wOut g o f' ++ (wB g D R2 u2 ts2 bs2 ps2 hs2 ns2 ++ wM g a m')) → W p l e room_1 s m #[Value.ref b] below meth c H locs (cells + 14 + 0 + 0) (slots + 395 + 0 + 0) Q (F0 m 289 ls []) := by
    intro H locs X
    refine lv_goto (tgt := 1731) hx hb dL_law_289 (by decide) ?_
    refine W.widen (k := cells + 20) (n := slots + 420) (by omega) (by omega) ?_
    exact kk _ _ _ R2 u2 ts2 bs2 ps2 hs2 ns2 m' f' G2 X (lv_sub hl [2, 3, 4, 5, 6] rfl)
  refine lv_if_ne (tgt := 289) hx hb dL_law_274 (by decide) (fun _ => KF _ _ X) (fun hc => ?_)
  refine lv_aload_n hx hb dL_law_277 rfl (lv_at hl 5 rfl) ?_
  refine lv_iconst (v := 0) hx hb dL_law_278 (by decide) ?_
  refine klald C X 0 rfl (i := 0) (by decide) dL_law_279 ?_
  refine lv_iload hx hb dL_law_280 (lv_at hl 0 rfl) ?_
  refine lv_i2l (v := bb.toInt64) hx hb dL_law_282 rfl ?_
  exact klcmp_eq (tgt := 289) hx hb dL_law_283 dL_law_284 (by decide) (fun _ => KF _ _ X) (fun q => absurd (e3 hc) q)
theorem cw_law_L_insert {p : Program} {s : State} {m : MethodId} {b : Nat} {meth : Method} {c : Code} {g : kG} (C : CT g p s m #[.ref b] meth c RL cL_law 9 (some .boolean) wsL_law (fun q : Nat => s.heap.size ≤ q)) : vx_CSW room_1 s #[.ref b] RL 104 yL_insert cL_insert 8 (some .int) [(0, 16, 19, 25), (0, 16, 23, 13), (0, 16, 27, 15)] wsL_insert rL_insert 17 413 7 := vx_cwSW 7 C.2.2.2.2.2.1 gL_law_L_insert rfl rfl rfl (by decide +kernel) ⟨Nat.le_of_ble_eq_true rfl, Nat.le_of_ble_eq_true rfl⟩
theorem cw_law_X6_insert {p : Program} {s : State} {m : MethodId} {b : Nat} {meth : Method} {c : Code} {g : kG} (C : CT g p s m #[.ref b] meth c RL cL_law 9 (some .boolean) wsL_law (fun q : Nat => s.heap.size ≤ q)) : CallW room_1 s #[.ref b] RL RX6 107 yX6_insert cX6_insert 8 (some .int) wsX6_insert rX6_insert 0 0 5 := cwV 5 C.2.2.2.2.2.1 gL_law_X6_insert rfl rfl rfl (by decide +kernel) ⟨Nat.le_of_ble_eq_true rfl, Nat.le_of_ble_eq_true rfl⟩
set_option maxRecDepth 100000 in
set_option maxHeartbeats 4000000 in
theorem law_insert (hl9 : l.stackTraces = false) (C : CT g p s m #[.ref b] meth c RL cL_law 9 (some .boolean) wsL_law (fun q : Nat => s.heap.size ≤ q)) (hX : va_X b L xs s s.heap) (hbl : b < s.heap.size) (hi : ∀ k : Int32, k = 1 ∨ k = 2 ∨ k = 3 ∨ k = 4 ∨ k = 5 → vp_in (i + k) L) (G : GR u ts hs ns mm) (X : ST g (fun q : Nat => s.heap.size ≤ q) s H locs (wOut g o f ++ (wB g D R u ts bs ps hs ns ++ wM g a mm))) (hl : lv_has ls 9 [(0, .ref b), (1, .ref (D 0 0)), (2, .ref (a 0)), (3, .ref o), (4, .int i)]) (hfit : cells + 20 ≤ 601024 ∧ slots + 420 ≤ 7293034) (kk : ∀ (H : Heap) (locs : List Loc) (ls : Array Slot) (R : kAd) (u : ShS) (ts : TS) (bs : SS) (ps : PS) (hs : HS) (ns : NS) (mm : MS) (f : Nat → Int64), GR u ts hs ns mm → ST g (fun q : Nat => s.heap.size ≤ q) s H locs (wOut g o f ++ (wB g D R u ts bs ps hs ns ++ wM g a mm)) → lv_has ls 9 [(0, .ref b), (1, .ref (D 0 0)), (2, .ref (a 0)), (3, .ref o), (4, .int i)] → W p l e room_1 s m #[Value.ref b] below meth c H locs (cells + 20) (slots + 420) Q (F0 m 1731 ls [])) : W p l e room_1 s m #[Value.ref b] below meth c H locs cells slots Q (F0 m 292 ls []) := by
  have hx := C.1
  have hb := C.2.1
  have hbA : ¬ (fun q : Nat => s.heap.size ≤ q) b := Nat.not_le.mpr hbl
  refine lv_aload_n hx hb dL_law_292 rfl (lv_at hl 1 rfl) ?_
  refine lv_aload_n hx hb dL_law_293 rfl (lv_at hl 0 rfl) ?_
  refine lv_iload hx hb dL_law_294 (lv_at hl 4 rfl) ?_
  refine lv_iconst (v := 1) hx hb dL_law_296 (by decide) ?_
  refine lv_iadd hx hb dL_law_297 ?_
  refine va_sld hx hb hX hbl hbA X.2.2 (hi 1 (by decide)) dL_law_298 ?_
  refine lv_aload_n hx hb dL_law_299 rfl (lv_at hl 0 rfl) ?_
  refine lv_iload hx hb dL_law_300 (lv_at hl 4 rfl) ?_
  refine lv_iconst (v := 2) hx hb dL_law_302 (by decide) ?_
  refine lv_iadd hx hb dL_law_303 ?_
  refine va_sld hx hb hX hbl hbA X.2.2 (hi 2 (by decide)) dL_law_304 ?_
  refine lv_aload_n hx hb dL_law_305 rfl (lv_at hl 0 rfl) ?_
  refine lv_iload hx hb dL_law_306 (lv_at hl 4 rfl) ?_
  refine lv_iconst (v := 3) hx hb dL_law_308 (by decide) ?_
  refine lv_iadd hx hb dL_law_309 ?_
  refine va_sld hx hb hX hbl hbA X.2.2 (hi 3 (by decide)) dL_law_310 ?_
  refine lv_aload_n hx hb dL_law_311 rfl (lv_at hl 0 rfl) ?_
  refine lv_iload hx hb dL_law_312 (lv_at hl 4 rfl) ?_
  refine lv_iconst (v := 4) hx hb dL_law_314 (by decide) ?_
  refine lv_iadd hx hb dL_law_315 ?_
  refine va_sld hx hb hX hbl hbA X.2.2 (hi 4 (by decide)) dL_law_316 ?_
  refine lv_aload_n hx hb dL_law_317 rfl (lv_at hl 0 rfl) ?_
  refine lv_iload hx hb dL_law_318 (lv_at hl 4 rfl) ?_
  refine lv_iconst (v := 5) hx hb dL_law_320 (by decide) ?_
  refine lv_iadd hx hb dL_law_321 ?_
  refine va_sld hx hb hX hbl hbA X.2.2 (hi 5 (by decide)) dL_law_322 ?_
  refine lv_aload_n hx hb dL_law_323 rfl (lv_at hl 3 rfl) ?_
  obtain ⟨kv, f', w2, bb, m', e1, hK, e2, e3, e4⟩ := st_insert l hl9 g D R u ts bs ps hs ns mm G (xs (i + 1).toNatClampNeg) (xs (i + 2).toNatClampNeg) (xs (i + 3).toNatClampNeg) (xs (i + 4).toNatClampNeg) (xs (i + 5).toNatClampNeg) o f
  refine keSW (wM g a mm) pm_l1 C X hK (cw_law_L_insert C) (As := [.ref (D 0 0), .int (xs (i + 1).toNatClampNeg), .int (xs (i + 2).toNatClampNeg), .int (xs (i + 3).toNatClampNeg), .int (xs (i + 4).toNatClampNeg), .int (xs (i + 5).toNatClampNeg), .ref o]) rfl hl (rest := []) rfl (Nat.le_of_ble_eq_true rfl) (st2 := [.int kv]) rfl dL_law_324 ⟨by have := hfit.1; show _ ≤ 601024; omega, by have := hfit.2; show _ ≤ 7293034; omega⟩ (w4 := fun t => wOut g o f' ++ (w2 t ++ wM g a mm)) (fun _ => pm_l2) (fun t H locs X => ?_)
  clear hK
  refine lv_istore (lv' := [(5, .int kv), (0, .ref b), (1, .ref (D 0 0)), (2, .ref (a 0)), (3, .ref o), (4, .int i)]) hx hb dL_law_327 hl (by decide) rfl (fun ls hl => ?_)
  refine lv_aload_n hx hb dL_law_329 rfl (lv_at hl 3 rfl) ?_
  refine lv_aload_n hx hb dL_law_330 rfl (lv_at hl 1 rfl) ?_
  refine lv_iload hx hb dL_law_331 (lv_at hl 5 rfl) ?_
  refine lv_iconst (v := 1) hx hb dL_law_333 (by decide) ?_
  refine lv_iadd hx hb dL_law_334 ?_
  refine va_sld hx hb hX hbl hbA X.2.2 (hi 1 (by decide)) dL_law_335 ?_
  refine lv_aload_n hx hb dL_law_336 rfl (lv_at hl 1 rfl) ?_
  refine lv_iload hx hb dL_law_337 (lv_at hl 5 rfl) ?_
  refine lv_iconst (v := 2) hx hb dL_law_339 (by decide) ?_
  refine lv_iadd hx hb dL_law_340 ?_
  refine va_sld hx hb hX hbl hbA X.2.2 (hi 2 (by decide)) dL_law_341 ?_
  refine lv_aload_n hx hb dL_law_342 rfl (lv_at hl 1 rfl) ?_
  refine lv_iload hx hb dL_law_343 (lv_at hl 5 rfl) ?_
  refine lv_iconst (v := 3) hx hb dL_law_345 (by decide) ?_
  refine lv_iadd hx hb dL_law_346 ?_
  refine va_sld hx hb hX hbl hbA X.2.2 (hi 3 (by decide)) dL_law_347 ?_
  refine lv_aload_n hx hb dL_law_348 rfl (lv_at hl 1 rfl) ?_
  refine lv_iload hx hb dL_law_349 (lv_at hl 5 rfl) ?_
  refine lv_iconst (v := 4) hx hb dL_law_351 (by decide) ?_
  refine lv_iadd hx hb dL_law_352 ?_
  refine va_sld hx hb hX hbl hbA X.2.2 (hi 4 (by decide)) dL_law_353 ?_
  refine lv_aload_n hx hb dL_law_354 rfl (lv_at hl 1 rfl) ?_
  refine lv_iload hx hb dL_law_355 (lv_at hl 5 rfl) ?_
  refine lv_iconst (v := 5) hx hb dL_law_357 (by decide) ?_
  refine lv_iadd hx hb dL_law_358 ?_
  refine va_sld hx hb hX hbl hbA X.2.2 (hi 5 (by decide)) dL_law_359 ?_
  refine kVp (wOut g o f' ++ w2 t) pm_l3 C X (kX6_insert l g a (xs (i + 1).toNatClampNeg) (xs (i + 2).toNatClampNeg) (xs (i + 3).toNatClampNeg) (xs (i + 4).toNatClampNeg) (xs (i + 5).toNatClampNeg) mm bb m' e1) (cw_law_X6_insert C) 0 (ci := 6) rfl rfl (As := [.int (xs (i + 1).toNatClampNeg), .int (xs (i + 2).toNatClampNeg), .int (xs (i + 3).toNatClampNeg), .int (xs (i + 4).toNatClampNeg), .int (xs (i + 5).toNatClampNeg)]) rfl hl (rest := []) rfl (Nat.le_of_ble_eq_true rfl) (st2 := [.int bb]) rfl dL_law_360 ⟨by have := hfit.1; show _ ≤ 601024; omega, by have := hfit.2; show _ ≤ 7293034; omega⟩ (w3 := wOut g o f' ++ (w2 t ++ wM g a m')) pm_l4 (fun H locs X => ?_)
  refine lv_istore (lv' := [(6, .int bb), (5, .int kv), (0, .ref b), (1, .ref (D 0 0)), (2, .ref (a 0)), (3, .ref o), (4, .int i)]) hx hb dL_law_363 hl (by decide) rfl (fun ls hl => ?_)
  refine lv_aload_n hx hb dL_law_365 rfl (lv_at hl 4 rfl) ?_
  refine kVp (wOut g o f' ++ w2 t) pm_l3 C X (kX6_thrown l g a m' kv (by rw [← e2]; rfl)) (cw_law_X6_thrown C) 0 (ci := 6) rfl rfl (As := []) rfl hl (rest := []) rfl (Nat.le_of_ble_eq_true rfl) (st2 := [.int kv]) rfl dL_law_366 ⟨by have := hfit.1; show _ ≤ 601024; omega, by have := hfit.2; show _ ≤ 7293034; omega⟩ (w3 := wOut g o f' ++ (w2 t ++ wM g a m')) pm_l4 (fun H locs X => ?_)
  refine lv_iload hx hb dL_law_369 (lv_at hl 1 rfl) ?_
  refine lv_icmp_eq (tgt := 376) hx hb dL_law_371 (by decide) (fun _ => ?_) (fun hc => absurd rfl hc)
  refine lv_iload hx hb dL_law_376 (lv_at hl 1 rfl) ?_
  obtain ⟨R2, u2, ts2, bs2, ps2, hs2, ns2, hwe, G2⟩ := e4 t
  rw [hwe] at X
  have KF : ∀ (H : Heap) (locs : List Loc), ST g (fun q : Nat => s.heap.size ≤ q) s H locs (wOut g o f' ++ (wB g D R2 u2 ts2 bs2 ps2 hs2 ns2 ++ wM g a m')) → W p l e room_1 s m #[Value.ref b] below meth c H locs (cells + 17 + 0 + 0) (slots + 413 + 0 + 0) Q (F0 m 393 ls []) := by
    intro H locs X
    refine lv_goto (tgt := 1731) hx hb dL_law_393 (by decide) ?_
    refine W.widen (k := cells + 20) (n := slots + 420) (by omega) (by omega) ?_
    exact kk _ _ _ R2 u2 ts2 bs2 ps2 hs2 ns2 m' f' G2 X (lv_sub hl [2, 3, 4, 5, 6] rfl)
  refine lv_if_ne (tgt := 393) hx hb dL_law_378 (by decide) (fun _ => KF _ _ X) (fun hc => ?_)
  refine lv_aload_n hx hb dL_law_381 rfl (lv_at hl 5 rfl) ?_
  refine lv_iconst (v := 0) hx hb dL_law_382 (by decide) ?_
  refine klald C X 0 rfl (i := 0) (by decide) dL_law_383 ?_
  refine lv_iload hx hb dL_law_384 (lv_at hl 0 rfl) ?_
  refine lv_i2l (v := bb.toInt64) hx hb dL_law_386 rfl ?_
  exact klcmp_eq (tgt := 393) hx hb dL_law_387 dL_law_388 (by decide) (fun _ => KF _ _ X) (fun q => absurd (e3 hc) q)
theorem cw_law_L_change {p : Program} {s : State} {m : MethodId} {b : Nat} {meth : Method} {c : Code} {g : kG} (C : CT g p s m #[.ref b] meth c RL cL_law 9 (some .boolean) wsL_law (fun q : Nat => s.heap.size ≤ q)) : vx_CSW room_1 s #[.ref b] RL 108 yL_change cL_change 8 (some .int) [(0, 16, 19, 25), (0, 16, 23, 13)] wsL_change rL_change 18 419 7 := vx_cwSW 7 C.2.2.2.2.2.1 gL_law_L_change rfl rfl rfl (by decide +kernel) ⟨Nat.le_of_ble_eq_true rfl, Nat.le_of_ble_eq_true rfl⟩
theorem cw_law_X6_change {p : Program} {s : State} {m : MethodId} {b : Nat} {meth : Method} {c : Code} {g : kG} (C : CT g p s m #[.ref b] meth c RL cL_law 9 (some .boolean) wsL_law (fun q : Nat => s.heap.size ≤ q)) : CallW room_1 s #[.ref b] RL RX6 110 yX6_change cX6_change 7 (some .int) wsX6_change rX6_change 0 0 5 := cwV 5 C.2.2.2.2.2.1 gL_law_X6_change rfl rfl rfl (by decide +kernel) ⟨Nat.le_of_ble_eq_true rfl, Nat.le_of_ble_eq_true rfl⟩
set_option maxRecDepth 100000 in
set_option maxHeartbeats 4000000 in
theorem law_change (hl9 : l.stackTraces = false) (C : CT g p s m #[.ref b] meth c RL cL_law 9 (some .boolean) wsL_law (fun q : Nat => s.heap.size ≤ q)) (hX : va_X b L xs s s.heap) (hbl : b < s.heap.size) (hi : ∀ k : Int32, k = 1 ∨ k = 2 ∨ k = 3 ∨ k = 4 ∨ k = 5 → vp_in (i + k) L) (G : GR u ts hs ns mm) (X : ST g (fun q : Nat => s.heap.size ≤ q) s H locs (wOut g o f ++ (wB g D R u ts bs ps hs ns ++ wM g a mm))) (hl : lv_has ls 9 [(0, .ref b), (1, .ref (D 0 0)), (2, .ref (a 0)), (3, .ref o), (4, .int i)]) (hfit : cells + 20 ≤ 601024 ∧ slots + 420 ≤ 7293034) (kk : ∀ (H : Heap) (locs : List Loc) (ls : Array Slot) (R : kAd) (u : ShS) (ts : TS) (bs : SS) (ps : PS) (hs : HS) (ns : NS) (mm : MS) (f : Nat → Int64), GR u ts hs ns mm → ST g (fun q : Nat => s.heap.size ≤ q) s H locs (wOut g o f ++ (wB g D R u ts bs ps hs ns ++ wM g a mm)) → lv_has ls 9 [(0, .ref b), (1, .ref (D 0 0)), (2, .ref (a 0)), (3, .ref o), (4, .int i)] → W p l e room_1 s m #[Value.ref b] below meth c H locs (cells + 20) (slots + 420) Q (F0 m 1731 ls [])) : W p l e room_1 s m #[Value.ref b] below meth c H locs cells slots Q (F0 m 396 ls []) := by
  have hx := C.1
  have hb := C.2.1
  have hbA : ¬ (fun q : Nat => s.heap.size ≤ q) b := Nat.not_le.mpr hbl
  refine lv_aload_n hx hb dL_law_396 rfl (lv_at hl 1 rfl) ?_
  refine lv_aload_n hx hb dL_law_397 rfl (lv_at hl 0 rfl) ?_
  refine lv_iload hx hb dL_law_398 (lv_at hl 4 rfl) ?_
  refine lv_iconst (v := 1) hx hb dL_law_400 (by decide) ?_
  refine lv_iadd hx hb dL_law_401 ?_
  refine va_sld hx hb hX hbl hbA X.2.2 (hi 1 (by decide)) dL_law_402 ?_
  refine lv_aload_n hx hb dL_law_403 rfl (lv_at hl 0 rfl) ?_
  refine lv_iload hx hb dL_law_404 (lv_at hl 4 rfl) ?_
  refine lv_iconst (v := 2) hx hb dL_law_406 (by decide) ?_
  refine lv_iadd hx hb dL_law_407 ?_
  refine va_sld hx hb hX hbl hbA X.2.2 (hi 2 (by decide)) dL_law_408 ?_
  refine lv_aload_n hx hb dL_law_409 rfl (lv_at hl 0 rfl) ?_
  refine lv_iload hx hb dL_law_410 (lv_at hl 4 rfl) ?_
  refine lv_iconst (v := 3) hx hb dL_law_412 (by decide) ?_
  refine lv_iadd hx hb dL_law_413 ?_
  refine va_sld hx hb hX hbl hbA X.2.2 (hi 3 (by decide)) dL_law_414 ?_
  refine lv_aload_n hx hb dL_law_415 rfl (lv_at hl 0 rfl) ?_
  refine lv_iload hx hb dL_law_416 (lv_at hl 4 rfl) ?_
  refine lv_iconst (v := 4) hx hb dL_law_418 (by decide) ?_
  refine lv_iadd hx hb dL_law_419 ?_
  refine va_sld hx hb hX hbl hbA X.2.2 (hi 4 (by decide)) dL_law_420 ?_
  refine lv_aload_n hx hb dL_law_421 rfl (lv_at hl 0 rfl) ?_
  refine lv_iload hx hb dL_law_422 (lv_at hl 4 rfl) ?_
  refine lv_iconst (v := 5) hx hb dL_law_424 (by decide) ?_
  refine lv_iadd hx hb dL_law_425 ?_
  refine va_sld hx hb hX hbl hbA X.2.2 (hi 5 (by decide)) dL_law_426 ?_
  refine lv_aload_n hx hb dL_law_427 rfl (lv_at hl 3 rfl) ?_
  obtain ⟨kv, f', w2, bb, m', e1, hK, e2, e3, e4⟩ := st_change l hl9 g D R u ts bs ps hs ns mm G (xs (i + 1).toNatClampNeg) (xs (i + 2).toNatClampNeg) (xs (i + 3).toNatClampNeg) (xs (i + 4).toNatClampNeg) (xs (i + 5).toNatClampNeg) o f
  refine keSW (wM g a mm) pm_l1 C X hK (cw_law_L_change C) (As := [.ref (D 0 0), .int (xs (i + 1).toNatClampNeg), .int (xs (i + 2).toNatClampNeg), .int (xs (i + 3).toNatClampNeg), .int (xs (i + 4).toNatClampNeg), .int (xs (i + 5).toNatClampNeg), .ref o]) rfl hl (rest := []) rfl (Nat.le_of_ble_eq_true rfl) (st2 := [.int kv]) rfl dL_law_428 ⟨by have := hfit.1; show _ ≤ 601024; omega, by have := hfit.2; show _ ≤ 7293034; omega⟩ (w4 := fun t => wOut g o f' ++ (w2 t ++ wM g a mm)) (fun _ => pm_l2) (fun t H locs X => ?_)
  clear hK
  refine lv_istore (lv' := [(5, .int kv), (0, .ref b), (1, .ref (D 0 0)), (2, .ref (a 0)), (3, .ref o), (4, .int i)]) hx hb dL_law_431 hl (by decide) rfl (fun ls hl => ?_)
  refine lv_aload_n hx hb dL_law_433 rfl (lv_at hl 3 rfl) ?_
  refine lv_aload_n hx hb dL_law_434 rfl (lv_at hl 1 rfl) ?_
  refine lv_iload hx hb dL_law_435 (lv_at hl 5 rfl) ?_
  refine lv_iconst (v := 1) hx hb dL_law_437 (by decide) ?_
  refine lv_iadd hx hb dL_law_438 ?_
  refine va_sld hx hb hX hbl hbA X.2.2 (hi 1 (by decide)) dL_law_439 ?_
  refine lv_aload_n hx hb dL_law_440 rfl (lv_at hl 1 rfl) ?_
  refine lv_iload hx hb dL_law_441 (lv_at hl 5 rfl) ?_
  refine lv_iconst (v := 2) hx hb dL_law_443 (by decide) ?_
  refine lv_iadd hx hb dL_law_444 ?_
  refine va_sld hx hb hX hbl hbA X.2.2 (hi 2 (by decide)) dL_law_445 ?_
  refine lv_aload_n hx hb dL_law_446 rfl (lv_at hl 1 rfl) ?_
  refine lv_iload hx hb dL_law_447 (lv_at hl 5 rfl) ?_
  refine lv_iconst (v := 3) hx hb dL_law_449 (by decide) ?_
  refine lv_iadd hx hb dL_law_450 ?_
  refine va_sld hx hb hX hbl hbA X.2.2 (hi 3 (by decide)) dL_law_451 ?_
  refine lv_aload_n hx hb dL_law_452 rfl (lv_at hl 1 rfl) ?_
  refine lv_iload hx hb dL_law_453 (lv_at hl 5 rfl) ?_
  refine lv_iconst (v := 4) hx hb dL_law_455 (by decide) ?_
  refine lv_iadd hx hb dL_law_456 ?_
  refine va_sld hx hb hX hbl hbA X.2.2 (hi 4 (by decide)) dL_law_457 ?_
  refine lv_aload_n hx hb dL_law_458 rfl (lv_at hl 1 rfl) ?_
  refine lv_iload hx hb dL_law_459 (lv_at hl 5 rfl) ?_
  refine lv_iconst (v := 5) hx hb dL_law_461 (by decide) ?_
  refine lv_iadd hx hb dL_law_462 ?_
  refine va_sld hx hb hX hbl hbA X.2.2 (hi 5 (by decide)) dL_law_463 ?_
  refine kVp (wOut g o f' ++ w2 t) pm_l3 C X (kX6_change l g a (xs (i + 1).toNatClampNeg) (xs (i + 2).toNatClampNeg) (xs (i + 3).toNatClampNeg) (xs (i + 4).toNatClampNeg) (xs (i + 5).toNatClampNeg) mm bb m' e1) (cw_law_X6_change C) 0 (ci := 6) rfl rfl (As := [.int (xs (i + 1).toNatClampNeg), .int (xs (i + 2).toNatClampNeg), .int (xs (i + 3).toNatClampNeg), .int (xs (i + 4).toNatClampNeg), .int (xs (i + 5).toNatClampNeg)]) rfl hl (rest := []) rfl (Nat.le_of_ble_eq_true rfl) (st2 := [.int bb]) rfl dL_law_464 ⟨by have := hfit.1; show _ ≤ 601024; omega, by have := hfit.2; show _ ≤ 7293034; omega⟩ (w3 := wOut g o f' ++ (w2 t ++ wM g a m')) pm_l4 (fun H locs X => ?_)
  refine lv_istore (lv' := [(6, .int bb), (5, .int kv), (0, .ref b), (1, .ref (D 0 0)), (2, .ref (a 0)), (3, .ref o), (4, .int i)]) hx hb dL_law_467 hl (by decide) rfl (fun ls hl => ?_)
  refine lv_aload_n hx hb dL_law_469 rfl (lv_at hl 4 rfl) ?_
  refine kVp (wOut g o f' ++ w2 t) pm_l3 C X (kX6_thrown l g a m' kv (by rw [← e2]; rfl)) (cw_law_X6_thrown C) 0 (ci := 6) rfl rfl (As := []) rfl hl (rest := []) rfl (Nat.le_of_ble_eq_true rfl) (st2 := [.int kv]) rfl dL_law_470 ⟨by have := hfit.1; show _ ≤ 601024; omega, by have := hfit.2; show _ ≤ 7293034; omega⟩ (w3 := wOut g o f' ++ (w2 t ++ wM g a m')) pm_l4 (fun H locs X => ?_)
  refine lv_iload hx hb dL_law_473 (lv_at hl 1 rfl) ?_
  refine lv_icmp_eq (tgt := 480) hx hb dL_law_475 (by decide) (fun _ => ?_) (fun hc => absurd rfl hc)
  refine lv_iload hx hb dL_law_480 (lv_at hl 1 rfl) ?_
  obtain ⟨R2, u2, ts2, bs2, ps2, hs2, ns2, hwe, G2⟩ := e4 t
  rw [hwe] at X
  have KF : ∀ (H : Heap) (locs : List Loc), ST g (fun q : Nat => s.heap.size ≤ q) s H locs (wOut g o f' ++ (wB g D R2 u2 ts2 bs2 ps2 hs2 ns2 ++ wM g a m')) → W p l e room_1 s m #[Value.ref b] below meth c H locs (cells + 18 + 0 + 0) (slots + 419 + 0 + 0) Q (F0 m 497 ls []) := by
    intro H locs X
    refine lv_goto (tgt := 1731) hx hb dL_law_497 (by decide) ?_
    refine W.widen (k := cells + 20) (n := slots + 420) (by omega) (by omega) ?_
    exact kk _ _ _ R2 u2 ts2 bs2 ps2 hs2 ns2 m' f' G2 X (lv_sub hl [2, 3, 4, 5, 6] rfl)
  refine lv_if_ne (tgt := 497) hx hb dL_law_482 (by decide) (fun _ => KF _ _ X) (fun hc => ?_)
  refine lv_aload_n hx hb dL_law_485 rfl (lv_at hl 5 rfl) ?_
  refine lv_iconst (v := 0) hx hb dL_law_486 (by decide) ?_
  refine klald C X 0 rfl (i := 0) (by decide) dL_law_487 ?_
  refine lv_iload hx hb dL_law_488 (lv_at hl 0 rfl) ?_
  refine lv_i2l (v := bb.toInt64) hx hb dL_law_490 rfl ?_
  exact klcmp_eq (tgt := 497) hx hb dL_law_491 dL_law_492 (by decide) (fun _ => KF _ _ X) (fun q => absurd (e3 hc) q)
theorem cw_law_L_remove {p : Program} {s : State} {m : MethodId} {b : Nat} {meth : Method} {c : Code} {g : kG} (C : CT g p s m #[.ref b] meth c RL cL_law 9 (some .boolean) wsL_law (fun q : Nat => s.heap.size ≤ q)) : vx_CSW room_1 s #[.ref b] RL 111 yL_remove cL_remove 5 (some .int) [(0, 10, 13, 25), (0, 10, 17, 15)] wsL_remove rL_remove 15 401 4 := vx_cwSW 4 C.2.2.2.2.2.1 gL_law_L_remove rfl rfl rfl (by decide +kernel) ⟨Nat.le_of_ble_eq_true rfl, Nat.le_of_ble_eq_true rfl⟩
theorem cw_law_X6_remove {p : Program} {s : State} {m : MethodId} {b : Nat} {meth : Method} {c : Code} {g : kG} (C : CT g p s m #[.ref b] meth c RL cL_law 9 (some .boolean) wsL_law (fun q : Nat => s.heap.size ≤ q)) : CallW room_1 s #[.ref b] RL RX6 114 yX6_remove cX6_remove 3 (some .int) wsX6_remove rX6_remove 0 0 2 := cwV 2 C.2.2.2.2.2.1 gL_law_X6_remove rfl rfl rfl (by decide +kernel) ⟨Nat.le_of_ble_eq_true rfl, Nat.le_of_ble_eq_true rfl⟩
set_option maxRecDepth 100000 in
set_option maxHeartbeats 4000000 in
theorem law_remove (hl9 : l.stackTraces = false) (C : CT g p s m #[.ref b] meth c RL cL_law 9 (some .boolean) wsL_law (fun q : Nat => s.heap.size ≤ q)) (hX : va_X b L xs s s.heap) (hbl : b < s.heap.size) (hi : ∀ k : Int32, k = 1 ∨ k = 2 ∨ k = 3 ∨ k = 4 ∨ k = 5 → vp_in (i + k) L) (G : GR u ts hs ns mm) (X : ST g (fun q : Nat => s.heap.size ≤ q) s H locs (wOut g o f ++ (wB g D R u ts bs ps hs ns ++ wM g a mm))) (hl : lv_has ls 9 [(0, .ref b), (1, .ref (D 0 0)), (2, .ref (a 0)), (3, .ref o), (4, .int i)]) (hfit : cells + 20 ≤ 601024 ∧ slots + 420 ≤ 7293034) (kk : ∀ (H : Heap) (locs : List Loc) (ls : Array Slot) (R : kAd) (u : ShS) (ts : TS) (bs : SS) (ps : PS) (hs : HS) (ns : NS) (mm : MS) (f : Nat → Int64), GR u ts hs ns mm → ST g (fun q : Nat => s.heap.size ≤ q) s H locs (wOut g o f ++ (wB g D R u ts bs ps hs ns ++ wM g a mm)) → lv_has ls 9 [(0, .ref b), (1, .ref (D 0 0)), (2, .ref (a 0)), (3, .ref o), (4, .int i)] → W p l e room_1 s m #[Value.ref b] below meth c H locs (cells + 20) (slots + 420) Q (F0 m 1731 ls [])) : W p l e room_1 s m #[Value.ref b] below meth c H locs cells slots Q (F0 m 500 ls []) := by
  have hx := C.1
  have hb := C.2.1
  have hbA : ¬ (fun q : Nat => s.heap.size ≤ q) b := Nat.not_le.mpr hbl
  refine lv_aload_n hx hb dL_law_500 rfl (lv_at hl 1 rfl) ?_
  refine lv_aload_n hx hb dL_law_501 rfl (lv_at hl 0 rfl) ?_
  refine lv_iload hx hb dL_law_502 (lv_at hl 4 rfl) ?_
  refine lv_iconst (v := 1) hx hb dL_law_504 (by decide) ?_
  refine lv_iadd hx hb dL_law_505 ?_
  refine va_sld hx hb hX hbl hbA X.2.2 (hi 1 (by decide)) dL_law_506 ?_
  refine lv_aload_n hx hb dL_law_507 rfl (lv_at hl 0 rfl) ?_
  refine lv_iload hx hb dL_law_508 (lv_at hl 4 rfl) ?_
  refine lv_iconst (v := 2) hx hb dL_law_510 (by decide) ?_
  refine lv_iadd hx hb dL_law_511 ?_
  refine va_sld hx hb hX hbl hbA X.2.2 (hi 2 (by decide)) dL_law_512 ?_
  refine lv_aload_n hx hb dL_law_513 rfl (lv_at hl 3 rfl) ?_
  obtain ⟨kv, f', w2, bb, m', e1, hK, e2, e3, e4⟩ := st_remove l hl9 g D R u ts bs ps hs ns mm G (xs (i + 1).toNatClampNeg) (xs (i + 2).toNatClampNeg) o f
  refine keSW (wM g a mm) pm_l1 C X hK (cw_law_L_remove C) (As := [.ref (D 0 0), .int (xs (i + 1).toNatClampNeg), .int (xs (i + 2).toNatClampNeg), .ref o]) rfl hl (rest := []) rfl (Nat.le_of_ble_eq_true rfl) (st2 := [.int kv]) rfl dL_law_514 ⟨by have := hfit.1; show _ ≤ 601024; omega, by have := hfit.2; show _ ≤ 7293034; omega⟩ (w4 := fun t => wOut g o f' ++ (w2 t ++ wM g a mm)) (fun _ => pm_l2) (fun t H locs X => ?_)
  clear hK
  refine lv_istore (lv' := [(5, .int kv), (0, .ref b), (1, .ref (D 0 0)), (2, .ref (a 0)), (3, .ref o), (4, .int i)]) hx hb dL_law_517 hl (by decide) rfl (fun ls hl => ?_)
  refine lv_aload_n hx hb dL_law_519 rfl (lv_at hl 3 rfl) ?_
  refine lv_aload_n hx hb dL_law_520 rfl (lv_at hl 1 rfl) ?_
  refine lv_iload hx hb dL_law_521 (lv_at hl 5 rfl) ?_
  refine lv_iconst (v := 1) hx hb dL_law_523 (by decide) ?_
  refine lv_iadd hx hb dL_law_524 ?_
  refine va_sld hx hb hX hbl hbA X.2.2 (hi 1 (by decide)) dL_law_525 ?_
  refine lv_aload_n hx hb dL_law_526 rfl (lv_at hl 1 rfl) ?_
  refine lv_iload hx hb dL_law_527 (lv_at hl 5 rfl) ?_
  refine lv_iconst (v := 2) hx hb dL_law_529 (by decide) ?_
  refine lv_iadd hx hb dL_law_530 ?_
  refine va_sld hx hb hX hbl hbA X.2.2 (hi 2 (by decide)) dL_law_531 ?_
  refine kVp (wOut g o f' ++ w2 t) pm_l3 C X (kX6_remove l g a (xs (i + 1).toNatClampNeg) (xs (i + 2).toNatClampNeg) mm bb m' e1) (cw_law_X6_remove C) 0 (ci := 6) rfl rfl (As := [.int (xs (i + 1).toNatClampNeg), .int (xs (i + 2).toNatClampNeg)]) rfl hl (rest := []) rfl (Nat.le_of_ble_eq_true rfl) (st2 := [.int bb]) rfl dL_law_532 ⟨by have := hfit.1; show _ ≤ 601024; omega, by have := hfit.2; show _ ≤ 7293034; omega⟩ (w3 := wOut g o f' ++ (w2 t ++ wM g a m')) pm_l4 (fun H locs X => ?_)
  refine lv_istore (lv' := [(6, .int bb), (5, .int kv), (0, .ref b), (1, .ref (D 0 0)), (2, .ref (a 0)), (3, .ref o), (4, .int i)]) hx hb dL_law_535 hl (by decide) rfl (fun ls hl => ?_)
  refine lv_aload_n hx hb dL_law_537 rfl (lv_at hl 4 rfl) ?_
  refine kVp (wOut g o f' ++ w2 t) pm_l3 C X (kX6_thrown l g a m' kv (by rw [← e2]; rfl)) (cw_law_X6_thrown C) 0 (ci := 6) rfl rfl (As := []) rfl hl (rest := []) rfl (Nat.le_of_ble_eq_true rfl) (st2 := [.int kv]) rfl dL_law_538 ⟨by have := hfit.1; show _ ≤ 601024; omega, by have := hfit.2; show _ ≤ 7293034; omega⟩ (w3 := wOut g o f' ++ (w2 t ++ wM g a m')) pm_l4 (fun H locs X => ?_)
  refine lv_iload hx hb dL_law_541 (lv_at hl 1 rfl) ?_
  refine lv_icmp_eq (tgt := 548) hx hb dL_law_543 (by decide) (fun _ => ?_) (fun hc => absurd rfl hc)
  refine lv_iload hx hb dL_law_548 (lv_at hl 1 rfl) ?_
  obtain ⟨R2, u2, ts2, bs2, ps2, hs2, ns2, hwe, G2⟩ := e4 t
  rw [hwe] at X
  have KF : ∀ (H : Heap) (locs : List Loc), ST g (fun q : Nat => s.heap.size ≤ q) s H locs (wOut g o f' ++ (wB g D R2 u2 ts2 bs2 ps2 hs2 ns2 ++ wM g a m')) → W p l e room_1 s m #[Value.ref b] below meth c H locs (cells + 15 + 0 + 0) (slots + 401 + 0 + 0) Q (F0 m 565 ls []) := by
    intro H locs X
    refine lv_goto (tgt := 1731) hx hb dL_law_565 (by decide) ?_
    refine W.widen (k := cells + 20) (n := slots + 420) (by omega) (by omega) ?_
    exact kk _ _ _ R2 u2 ts2 bs2 ps2 hs2 ns2 m' f' G2 X (lv_sub hl [2, 3, 4, 5, 6] rfl)
  refine lv_if_ne (tgt := 565) hx hb dL_law_550 (by decide) (fun _ => KF _ _ X) (fun hc => ?_)
  refine lv_aload_n hx hb dL_law_553 rfl (lv_at hl 5 rfl) ?_
  refine lv_iconst (v := 0) hx hb dL_law_554 (by decide) ?_
  refine klald C X 0 rfl (i := 0) (by decide) dL_law_555 ?_
  refine lv_iload hx hb dL_law_556 (lv_at hl 0 rfl) ?_
  refine lv_i2l (v := bb.toInt64) hx hb dL_law_558 rfl ?_
  exact klcmp_eq (tgt := 565) hx hb dL_law_559 dL_law_560 (by decide) (fun _ => KF _ _ X) (fun q => absurd (e3 hc) q)
theorem cw_law_L_erase {p : Program} {s : State} {m : MethodId} {b : Nat} {meth : Method} {c : Code} {g : kG} (C : CT g p s m #[.ref b] meth c RL cL_law 9 (some .boolean) wsL_law (fun q : Nat => s.heap.size ≤ q)) : vx_CSW room_1 s #[.ref b] RL 115 yL_erase cL_erase 4 (some .int) [(0, 9, 12, 25)] wsL_erase rL_erase 14 395 3 := vx_cwSW 3 C.2.2.2.2.2.1 gL_law_L_erase rfl rfl rfl (by decide +kernel) ⟨Nat.le_of_ble_eq_true rfl, Nat.le_of_ble_eq_true rfl⟩
theorem cw_law_X6_erase {p : Program} {s : State} {m : MethodId} {b : Nat} {meth : Method} {c : Code} {g : kG} (C : CT g p s m #[.ref b] meth c RL cL_law 9 (some .boolean) wsL_law (fun q : Nat => s.heap.size ≤ q)) : CallW room_1 s #[.ref b] RL RX6 118 yX6_erase cX6_erase 3 (some .int) wsX6_erase rX6_erase 0 0 1 := cwV 1 C.2.2.2.2.2.1 gL_law_X6_erase rfl rfl rfl (by decide +kernel) ⟨Nat.le_of_ble_eq_true rfl, Nat.le_of_ble_eq_true rfl⟩
set_option maxRecDepth 100000 in
set_option maxHeartbeats 4000000 in
theorem law_erase (hl9 : l.stackTraces = false) (C : CT g p s m #[.ref b] meth c RL cL_law 9 (some .boolean) wsL_law (fun q : Nat => s.heap.size ≤ q)) (hX : va_X b L xs s s.heap) (hbl : b < s.heap.size) (hi : ∀ k : Int32, k = 1 ∨ k = 2 ∨ k = 3 ∨ k = 4 ∨ k = 5 → vp_in (i + k) L) (G : GR u ts hs ns mm) (X : ST g (fun q : Nat => s.heap.size ≤ q) s H locs (wOut g o f ++ (wB g D R u ts bs ps hs ns ++ wM g a mm))) (hl : lv_has ls 9 [(0, .ref b), (1, .ref (D 0 0)), (2, .ref (a 0)), (3, .ref o), (4, .int i)]) (hfit : cells + 20 ≤ 601024 ∧ slots + 420 ≤ 7293034) (kk : ∀ (H : Heap) (locs : List Loc) (ls : Array Slot) (R : kAd) (u : ShS) (ts : TS) (bs : SS) (ps : PS) (hs : HS) (ns : NS) (mm : MS) (f : Nat → Int64), GR u ts hs ns mm → ST g (fun q : Nat => s.heap.size ≤ q) s H locs (wOut g o f ++ (wB g D R u ts bs ps hs ns ++ wM g a mm)) → lv_has ls 9 [(0, .ref b), (1, .ref (D 0 0)), (2, .ref (a 0)), (3, .ref o), (4, .int i)] → W p l e room_1 s m #[Value.ref b] below meth c H locs (cells + 20) (slots + 420) Q (F0 m 1731 ls [])) : W p l e room_1 s m #[Value.ref b] below meth c H locs cells slots Q (F0 m 568 ls []) := by
  have hx := C.1
  have hb := C.2.1
  have hbA : ¬ (fun q : Nat => s.heap.size ≤ q) b := Nat.not_le.mpr hbl
  refine lv_aload_n hx hb dL_law_568 rfl (lv_at hl 1 rfl) ?_
  refine lv_aload_n hx hb dL_law_569 rfl (lv_at hl 0 rfl) ?_
  refine lv_iload hx hb dL_law_570 (lv_at hl 4 rfl) ?_
  refine lv_iconst (v := 1) hx hb dL_law_572 (by decide) ?_
  refine lv_iadd hx hb dL_law_573 ?_
  refine va_sld hx hb hX hbl hbA X.2.2 (hi 1 (by decide)) dL_law_574 ?_
  refine lv_aload_n hx hb dL_law_575 rfl (lv_at hl 3 rfl) ?_
  obtain ⟨kv, f', w2, bb, m', e1, hK, e2, e3, e4⟩ := st_erase l hl9 g D R u ts bs ps hs ns mm G (xs (i + 1).toNatClampNeg) o f
  refine keSW (wM g a mm) pm_l1 C X hK (cw_law_L_erase C) (As := [.ref (D 0 0), .int (xs (i + 1).toNatClampNeg), .ref o]) rfl hl (rest := []) rfl (Nat.le_of_ble_eq_true rfl) (st2 := [.int kv]) rfl dL_law_576 ⟨by have := hfit.1; show _ ≤ 601024; omega, by have := hfit.2; show _ ≤ 7293034; omega⟩ (w4 := fun t => wOut g o f' ++ (w2 t ++ wM g a mm)) (fun _ => pm_l2) (fun t H locs X => ?_)
  clear hK
  refine lv_istore (lv' := [(5, .int kv), (0, .ref b), (1, .ref (D 0 0)), (2, .ref (a 0)), (3, .ref o), (4, .int i)]) hx hb dL_law_579 hl (by decide) rfl (fun ls hl => ?_)
  refine lv_aload_n hx hb dL_law_581 rfl (lv_at hl 3 rfl) ?_
  refine lv_aload_n hx hb dL_law_582 rfl (lv_at hl 1 rfl) ?_
  refine lv_iload hx hb dL_law_583 (lv_at hl 5 rfl) ?_
  refine lv_iconst (v := 1) hx hb dL_law_585 (by decide) ?_
  refine lv_iadd hx hb dL_law_586 ?_
  refine va_sld hx hb hX hbl hbA X.2.2 (hi 1 (by decide)) dL_law_587 ?_
  refine kVp (wOut g o f' ++ w2 t) pm_l3 C X (kX6_erase l g a (xs (i + 1).toNatClampNeg) mm bb m' e1) (cw_law_X6_erase C) 0 (ci := 6) rfl rfl (As := [.int (xs (i + 1).toNatClampNeg)]) rfl hl (rest := []) rfl (Nat.le_of_ble_eq_true rfl) (st2 := [.int bb]) rfl dL_law_588 ⟨by have := hfit.1; show _ ≤ 601024; omega, by have := hfit.2; show _ ≤ 7293034; omega⟩ (w3 := wOut g o f' ++ (w2 t ++ wM g a m')) pm_l4 (fun H locs X => ?_)
  refine lv_istore (lv' := [(6, .int bb), (5, .int kv), (0, .ref b), (1, .ref (D 0 0)), (2, .ref (a 0)), (3, .ref o), (4, .int i)]) hx hb dL_law_591 hl (by decide) rfl (fun ls hl => ?_)
  refine lv_aload_n hx hb dL_law_593 rfl (lv_at hl 4 rfl) ?_
  refine kVp (wOut g o f' ++ w2 t) pm_l3 C X (kX6_thrown l g a m' kv (by rw [← e2]; rfl)) (cw_law_X6_thrown C) 0 (ci := 6) rfl rfl (As := []) rfl hl (rest := []) rfl (Nat.le_of_ble_eq_true rfl) (st2 := [.int kv]) rfl dL_law_594 ⟨by have := hfit.1; show _ ≤ 601024; omega, by have := hfit.2; show _ ≤ 7293034; omega⟩ (w3 := wOut g o f' ++ (w2 t ++ wM g a m')) pm_l4 (fun H locs X => ?_)
  refine lv_iload hx hb dL_law_597 (lv_at hl 1 rfl) ?_
  refine lv_icmp_eq (tgt := 604) hx hb dL_law_599 (by decide) (fun _ => ?_) (fun hc => absurd rfl hc)
  refine lv_iload hx hb dL_law_604 (lv_at hl 1 rfl) ?_
  obtain ⟨R2, u2, ts2, bs2, ps2, hs2, ns2, hwe, G2⟩ := e4 t
  rw [hwe] at X
  have KF : ∀ (H : Heap) (locs : List Loc), ST g (fun q : Nat => s.heap.size ≤ q) s H locs (wOut g o f' ++ (wB g D R2 u2 ts2 bs2 ps2 hs2 ns2 ++ wM g a m')) → W p l e room_1 s m #[Value.ref b] below meth c H locs (cells + 14 + 0 + 0) (slots + 395 + 0 + 0) Q (F0 m 621 ls []) := by
    intro H locs X
    refine lv_goto (tgt := 1731) hx hb dL_law_621 (by decide) ?_
    refine W.widen (k := cells + 20) (n := slots + 420) (by omega) (by omega) ?_
    exact kk _ _ _ R2 u2 ts2 bs2 ps2 hs2 ns2 m' f' G2 X (lv_sub hl [2, 3, 4, 5, 6] rfl)
  refine lv_if_ne (tgt := 621) hx hb dL_law_606 (by decide) (fun _ => KF _ _ X) (fun hc => ?_)
  refine lv_aload_n hx hb dL_law_609 rfl (lv_at hl 5 rfl) ?_
  refine lv_iconst (v := 0) hx hb dL_law_610 (by decide) ?_
  refine klald C X 0 rfl (i := 0) (by decide) dL_law_611 ?_
  refine lv_iload hx hb dL_law_612 (lv_at hl 0 rfl) ?_
  refine lv_i2l (v := bb.toInt64) hx hb dL_law_614 rfl ?_
  exact klcmp_eq (tgt := 621) hx hb dL_law_615 dL_law_616 (by decide) (fun _ => KF _ _ X) (fun q => absurd (e3 hc) q)
theorem cw_law_L_simplify {p : Program} {s : State} {m : MethodId} {b : Nat} {meth : Method} {c : Code} {g : kG} (C : CT g p s m #[.ref b] meth c RL cL_law 9 (some .boolean) wsL_law (fun q : Nat => s.heap.size ≤ q)) : vx_CSW room_1 s #[.ref b] RL 119 yL_simplify cL_simplify 5 (some .int) [(0, 10, 13, 25), (0, 10, 17, 13)] wsL_simplify rL_simplify 15 401 4 := vx_cwSW 4 C.2.2.2.2.2.1 gL_law_L_simplify rfl rfl rfl (by decide +kernel) ⟨Nat.le_of_ble_eq_true rfl, Nat.le_of_ble_eq_true rfl⟩
theorem cw_law_X6_simplify {p : Program} {s : State} {m : MethodId} {b : Nat} {meth : Method} {c : Code} {g : kG} (C : CT g p s m #[.ref b] meth c RL cL_law 9 (some .boolean) wsL_law (fun q : Nat => s.heap.size ≤ q)) : CallW room_1 s #[.ref b] RL RX6 121 yX6_simplify cX6_simplify 4 (some .int) wsX6_simplify rX6_simplify 0 0 2 := cwV 2 C.2.2.2.2.2.1 gL_law_X6_simplify rfl rfl rfl (by decide +kernel) ⟨Nat.le_of_ble_eq_true rfl, Nat.le_of_ble_eq_true rfl⟩
set_option maxRecDepth 100000 in
set_option maxHeartbeats 4000000 in
theorem law_simplify (hl9 : l.stackTraces = false) (C : CT g p s m #[.ref b] meth c RL cL_law 9 (some .boolean) wsL_law (fun q : Nat => s.heap.size ≤ q)) (hX : va_X b L xs s s.heap) (hbl : b < s.heap.size) (hi : ∀ k : Int32, k = 1 ∨ k = 2 ∨ k = 3 ∨ k = 4 ∨ k = 5 → vp_in (i + k) L) (G : GR u ts hs ns mm) (X : ST g (fun q : Nat => s.heap.size ≤ q) s H locs (wOut g o f ++ (wB g D R u ts bs ps hs ns ++ wM g a mm))) (hl : lv_has ls 9 [(0, .ref b), (1, .ref (D 0 0)), (2, .ref (a 0)), (3, .ref o), (4, .int i)]) (hfit : cells + 20 ≤ 601024 ∧ slots + 420 ≤ 7293034) (kk : ∀ (H : Heap) (locs : List Loc) (ls : Array Slot) (R : kAd) (u : ShS) (ts : TS) (bs : SS) (ps : PS) (hs : HS) (ns : NS) (mm : MS) (f : Nat → Int64), GR u ts hs ns mm → ST g (fun q : Nat => s.heap.size ≤ q) s H locs (wOut g o f ++ (wB g D R u ts bs ps hs ns ++ wM g a mm)) → lv_has ls 9 [(0, .ref b), (1, .ref (D 0 0)), (2, .ref (a 0)), (3, .ref o), (4, .int i)] → W p l e room_1 s m #[Value.ref b] below meth c H locs (cells + 20) (slots + 420) Q (F0 m 1731 ls [])) : W p l e room_1 s m #[Value.ref b] below meth c H locs cells slots Q (F0 m 624 ls []) := by
  have hx := C.1
  have hb := C.2.1
  have hbA : ¬ (fun q : Nat => s.heap.size ≤ q) b := Nat.not_le.mpr hbl
  refine lv_aload_n hx hb dL_law_624 rfl (lv_at hl 1 rfl) ?_
  refine lv_aload_n hx hb dL_law_625 rfl (lv_at hl 0 rfl) ?_
  refine lv_iload hx hb dL_law_626 (lv_at hl 4 rfl) ?_
  refine lv_iconst (v := 1) hx hb dL_law_628 (by decide) ?_
  refine lv_iadd hx hb dL_law_629 ?_
  refine va_sld hx hb hX hbl hbA X.2.2 (hi 1 (by decide)) dL_law_630 ?_
  refine lv_aload_n hx hb dL_law_631 rfl (lv_at hl 0 rfl) ?_
  refine lv_iload hx hb dL_law_632 (lv_at hl 4 rfl) ?_
  refine lv_iconst (v := 2) hx hb dL_law_634 (by decide) ?_
  refine lv_iadd hx hb dL_law_635 ?_
  refine va_sld hx hb hX hbl hbA X.2.2 (hi 2 (by decide)) dL_law_636 ?_
  refine lv_aload_n hx hb dL_law_637 rfl (lv_at hl 3 rfl) ?_
  obtain ⟨kv, f', w2, bb, m', e1, hK, e2, e3, e4⟩ := st_simplify l hl9 g D R u ts bs ps hs ns mm G (xs (i + 1).toNatClampNeg) (xs (i + 2).toNatClampNeg) o f
  refine keSW (wM g a mm) pm_l1 C X hK (cw_law_L_simplify C) (As := [.ref (D 0 0), .int (xs (i + 1).toNatClampNeg), .int (xs (i + 2).toNatClampNeg), .ref o]) rfl hl (rest := []) rfl (Nat.le_of_ble_eq_true rfl) (st2 := [.int kv]) rfl dL_law_638 ⟨by have := hfit.1; show _ ≤ 601024; omega, by have := hfit.2; show _ ≤ 7293034; omega⟩ (w4 := fun t => wOut g o f' ++ (w2 t ++ wM g a mm)) (fun _ => pm_l2) (fun t H locs X => ?_)
  clear hK
  refine lv_istore (lv' := [(5, .int kv), (0, .ref b), (1, .ref (D 0 0)), (2, .ref (a 0)), (3, .ref o), (4, .int i)]) hx hb dL_law_641 hl (by decide) rfl (fun ls hl => ?_)
  refine lv_aload_n hx hb dL_law_643 rfl (lv_at hl 3 rfl) ?_
  refine lv_aload_n hx hb dL_law_644 rfl (lv_at hl 1 rfl) ?_
  refine lv_iload hx hb dL_law_645 (lv_at hl 5 rfl) ?_
  refine lv_iconst (v := 1) hx hb dL_law_647 (by decide) ?_
  refine lv_iadd hx hb dL_law_648 ?_
  refine va_sld hx hb hX hbl hbA X.2.2 (hi 1 (by decide)) dL_law_649 ?_
  refine lv_aload_n hx hb dL_law_650 rfl (lv_at hl 1 rfl) ?_
  refine lv_iload hx hb dL_law_651 (lv_at hl 5 rfl) ?_
  refine lv_iconst (v := 2) hx hb dL_law_653 (by decide) ?_
  refine lv_iadd hx hb dL_law_654 ?_
  refine va_sld hx hb hX hbl hbA X.2.2 (hi 2 (by decide)) dL_law_655 ?_
  refine kVp (wOut g o f' ++ w2 t) pm_l3 C X (kX6_simplify l g a (xs (i + 1).toNatClampNeg) (xs (i + 2).toNatClampNeg) mm bb m' e1) (cw_law_X6_simplify C) 0 (ci := 6) rfl rfl (As := [.int (xs (i + 1).toNatClampNeg), .int (xs (i + 2).toNatClampNeg)]) rfl hl (rest := []) rfl (Nat.le_of_ble_eq_true rfl) (st2 := [.int bb]) rfl dL_law_656 ⟨by have := hfit.1; show _ ≤ 601024; omega, by have := hfit.2; show _ ≤ 7293034; omega⟩ (w3 := wOut g o f' ++ (w2 t ++ wM g a m')) pm_l4 (fun H locs X => ?_)
  refine lv_istore (lv' := [(6, .int bb), (5, .int kv), (0, .ref b), (1, .ref (D 0 0)), (2, .ref (a 0)), (3, .ref o), (4, .int i)]) hx hb dL_law_659 hl (by decide) rfl (fun ls hl => ?_)
  refine lv_aload_n hx hb dL_law_661 rfl (lv_at hl 4 rfl) ?_
  refine kVp (wOut g o f' ++ w2 t) pm_l3 C X (kX6_thrown l g a m' kv (by rw [← e2]; rfl)) (cw_law_X6_thrown C) 0 (ci := 6) rfl rfl (As := []) rfl hl (rest := []) rfl (Nat.le_of_ble_eq_true rfl) (st2 := [.int kv]) rfl dL_law_662 ⟨by have := hfit.1; show _ ≤ 601024; omega, by have := hfit.2; show _ ≤ 7293034; omega⟩ (w3 := wOut g o f' ++ (w2 t ++ wM g a m')) pm_l4 (fun H locs X => ?_)
  refine lv_iload hx hb dL_law_665 (lv_at hl 1 rfl) ?_
  refine lv_icmp_eq (tgt := 672) hx hb dL_law_667 (by decide) (fun _ => ?_) (fun hc => absurd rfl hc)
  refine lv_iload hx hb dL_law_672 (lv_at hl 1 rfl) ?_
  obtain ⟨R2, u2, ts2, bs2, ps2, hs2, ns2, hwe, G2⟩ := e4 t
  rw [hwe] at X
  have KF : ∀ (H : Heap) (locs : List Loc), ST g (fun q : Nat => s.heap.size ≤ q) s H locs (wOut g o f' ++ (wB g D R2 u2 ts2 bs2 ps2 hs2 ns2 ++ wM g a m')) → W p l e room_1 s m #[Value.ref b] below meth c H locs (cells + 15 + 0 + 0) (slots + 401 + 0 + 0) Q (F0 m 689 ls []) := by
    intro H locs X
    refine lv_goto (tgt := 1731) hx hb dL_law_689 (by decide) ?_
    refine W.widen (k := cells + 20) (n := slots + 420) (by omega) (by omega) ?_
    exact kk _ _ _ R2 u2 ts2 bs2 ps2 hs2 ns2 m' f' G2 X (lv_sub hl [2, 3, 4, 5, 6] rfl)
  refine lv_if_ne (tgt := 689) hx hb dL_law_674 (by decide) (fun _ => KF _ _ X) (fun hc => ?_)
  refine lv_aload_n hx hb dL_law_677 rfl (lv_at hl 5 rfl) ?_
  refine lv_iconst (v := 0) hx hb dL_law_678 (by decide) ?_
  refine klald C X 0 rfl (i := 0) (by decide) dL_law_679 ?_
  refine lv_iload hx hb dL_law_680 (lv_at hl 0 rfl) ?_
  refine lv_i2l (v := bb.toInt64) hx hb dL_law_682 rfl ?_
  exact klcmp_eq (tgt := 689) hx hb dL_law_683 dL_law_684 (by decide) (fun _ => KF _ _ X) (fun q => absurd (e3 hc) q)
theorem cw_law_L_bake {p : Program} {s : State} {m : MethodId} {b : Nat} {meth : Method} {c : Code} {g : kG} (C : CT g p s m #[.ref b] meth c RL cL_law 9 (some .boolean) wsL_law (fun q : Nat => s.heap.size ≤ q)) : vx_CSW room_1 s #[.ref b] RL 122 yL_bake cL_bake 4 (some .int) [(0, 9, 12, 25)] wsL_bake rL_bake 14 395 3 := vx_cwSW 3 C.2.2.2.2.2.1 gL_law_L_bake rfl rfl rfl (by decide +kernel) ⟨Nat.le_of_ble_eq_true rfl, Nat.le_of_ble_eq_true rfl⟩
theorem cw_law_X6_bake {p : Program} {s : State} {m : MethodId} {b : Nat} {meth : Method} {c : Code} {g : kG} (C : CT g p s m #[.ref b] meth c RL cL_law 9 (some .boolean) wsL_law (fun q : Nat => s.heap.size ≤ q)) : CallW room_1 s #[.ref b] RL RX6 124 yX6_bake cX6_bake 5 (some .int) wsX6_bake rX6_bake 0 0 1 := cwV 1 C.2.2.2.2.2.1 gL_law_X6_bake rfl rfl rfl (by decide +kernel) ⟨Nat.le_of_ble_eq_true rfl, Nat.le_of_ble_eq_true rfl⟩
set_option maxRecDepth 100000 in
set_option maxHeartbeats 4000000 in
theorem law_bake (hl9 : l.stackTraces = false) (C : CT g p s m #[.ref b] meth c RL cL_law 9 (some .boolean) wsL_law (fun q : Nat => s.heap.size ≤ q)) (hX : va_X b L xs s s.heap) (hbl : b < s.heap.size) (hi : ∀ k : Int32, k = 1 ∨ k = 2 ∨ k = 3 ∨ k = 4 ∨ k = 5 → vp_in (i + k) L) (G : GR u ts hs ns mm) (X : ST g (fun q : Nat => s.heap.size ≤ q) s H locs (wOut g o f ++ (wB g D R u ts bs ps hs ns ++ wM g a mm))) (hl : lv_has ls 9 [(0, .ref b), (1, .ref (D 0 0)), (2, .ref (a 0)), (3, .ref o), (4, .int i)]) (hfit : cells + 20 ≤ 601024 ∧ slots + 420 ≤ 7293034) (kk : ∀ (H : Heap) (locs : List Loc) (ls : Array Slot) (R : kAd) (u : ShS) (ts : TS) (bs : SS) (ps : PS) (hs : HS) (ns : NS) (mm : MS) (f : Nat → Int64), GR u ts hs ns mm → ST g (fun q : Nat => s.heap.size ≤ q) s H locs (wOut g o f ++ (wB g D R u ts bs ps hs ns ++ wM g a mm)) → lv_has ls 9 [(0, .ref b), (1, .ref (D 0 0)), (2, .ref (a 0)), (3, .ref o), (4, .int i)] → W p l e room_1 s m #[Value.ref b] below meth c H locs (cells + 20) (slots + 420) Q (F0 m 1731 ls [])) : W p l e room_1 s m #[Value.ref b] below meth c H locs cells slots Q (F0 m 692 ls []) := by
  have hx := C.1
  have hb := C.2.1
  have hbA : ¬ (fun q : Nat => s.heap.size ≤ q) b := Nat.not_le.mpr hbl
  refine lv_aload_n hx hb dL_law_692 rfl (lv_at hl 1 rfl) ?_
  refine lv_aload_n hx hb dL_law_693 rfl (lv_at hl 0 rfl) ?_
  refine lv_iload hx hb dL_law_694 (lv_at hl 4 rfl) ?_
  refine lv_iconst (v := 1) hx hb dL_law_696 (by decide) ?_
  refine lv_iadd hx hb dL_law_697 ?_
  refine va_sld hx hb hX hbl hbA X.2.2 (hi 1 (by decide)) dL_law_698 ?_
  refine lv_aload_n hx hb dL_law_699 rfl (lv_at hl 3 rfl) ?_
  obtain ⟨kv, f', w2, bb, m', e1, hK, e2, e3, e4⟩ := st_bake l hl9 g D R u ts bs ps hs ns mm G (xs (i + 1).toNatClampNeg) o f
  refine keSW (wM g a mm) pm_l1 C X hK (cw_law_L_bake C) (As := [.ref (D 0 0), .int (xs (i + 1).toNatClampNeg), .ref o]) rfl hl (rest := []) rfl (Nat.le_of_ble_eq_true rfl) (st2 := [.int kv]) rfl dL_law_700 ⟨by have := hfit.1; show _ ≤ 601024; omega, by have := hfit.2; show _ ≤ 7293034; omega⟩ (w4 := fun t => wOut g o f' ++ (w2 t ++ wM g a mm)) (fun _ => pm_l2) (fun t H locs X => ?_)
  clear hK
  refine lv_istore (lv' := [(5, .int kv), (0, .ref b), (1, .ref (D 0 0)), (2, .ref (a 0)), (3, .ref o), (4, .int i)]) hx hb dL_law_703 hl (by decide) rfl (fun ls hl => ?_)
  refine lv_aload_n hx hb dL_law_705 rfl (lv_at hl 3 rfl) ?_
  refine lv_aload_n hx hb dL_law_706 rfl (lv_at hl 1 rfl) ?_
  refine lv_iload hx hb dL_law_707 (lv_at hl 5 rfl) ?_
  refine lv_iconst (v := 1) hx hb dL_law_709 (by decide) ?_
  refine lv_iadd hx hb dL_law_710 ?_
  refine va_sld hx hb hX hbl hbA X.2.2 (hi 1 (by decide)) dL_law_711 ?_
  refine kVp (wOut g o f' ++ w2 t) pm_l3 C X (kX6_bake l g a (xs (i + 1).toNatClampNeg) mm bb m' e1) (cw_law_X6_bake C) 0 (ci := 6) rfl rfl (As := [.int (xs (i + 1).toNatClampNeg)]) rfl hl (rest := []) rfl (Nat.le_of_ble_eq_true rfl) (st2 := [.int bb]) rfl dL_law_712 ⟨by have := hfit.1; show _ ≤ 601024; omega, by have := hfit.2; show _ ≤ 7293034; omega⟩ (w3 := wOut g o f' ++ (w2 t ++ wM g a m')) pm_l4 (fun H locs X => ?_)
  refine lv_istore (lv' := [(6, .int bb), (5, .int kv), (0, .ref b), (1, .ref (D 0 0)), (2, .ref (a 0)), (3, .ref o), (4, .int i)]) hx hb dL_law_715 hl (by decide) rfl (fun ls hl => ?_)
  refine lv_aload_n hx hb dL_law_717 rfl (lv_at hl 4 rfl) ?_
  refine kVp (wOut g o f' ++ w2 t) pm_l3 C X (kX6_thrown l g a m' kv (by rw [← e2]; rfl)) (cw_law_X6_thrown C) 0 (ci := 6) rfl rfl (As := []) rfl hl (rest := []) rfl (Nat.le_of_ble_eq_true rfl) (st2 := [.int kv]) rfl dL_law_718 ⟨by have := hfit.1; show _ ≤ 601024; omega, by have := hfit.2; show _ ≤ 7293034; omega⟩ (w3 := wOut g o f' ++ (w2 t ++ wM g a m')) pm_l4 (fun H locs X => ?_)
  refine lv_iload hx hb dL_law_721 (lv_at hl 1 rfl) ?_
  refine lv_icmp_eq (tgt := 728) hx hb dL_law_723 (by decide) (fun _ => ?_) (fun hc => absurd rfl hc)
  refine lv_iload hx hb dL_law_728 (lv_at hl 1 rfl) ?_
  obtain ⟨R2, u2, ts2, bs2, ps2, hs2, ns2, hwe, G2⟩ := e4 t
  rw [hwe] at X
  have KF : ∀ (H : Heap) (locs : List Loc), ST g (fun q : Nat => s.heap.size ≤ q) s H locs (wOut g o f' ++ (wB g D R2 u2 ts2 bs2 ps2 hs2 ns2 ++ wM g a m')) → W p l e room_1 s m #[Value.ref b] below meth c H locs (cells + 14 + 0 + 0) (slots + 395 + 0 + 0) Q (F0 m 745 ls []) := by
    intro H locs X
    refine lv_goto (tgt := 1731) hx hb dL_law_745 (by decide) ?_
    refine W.widen (k := cells + 20) (n := slots + 420) (by omega) (by omega) ?_
    exact kk _ _ _ R2 u2 ts2 bs2 ps2 hs2 ns2 m' f' G2 X (lv_sub hl [2, 3, 4, 5, 6] rfl)
  refine lv_if_ne (tgt := 745) hx hb dL_law_730 (by decide) (fun _ => KF _ _ X) (fun hc => ?_)
  refine lv_aload_n hx hb dL_law_733 rfl (lv_at hl 5 rfl) ?_
  refine lv_iconst (v := 0) hx hb dL_law_734 (by decide) ?_
  refine klald C X 0 rfl (i := 0) (by decide) dL_law_735 ?_
  refine lv_iload hx hb dL_law_736 (lv_at hl 0 rfl) ?_
  refine lv_i2l (v := bb.toInt64) hx hb dL_law_738 rfl ?_
  exact klcmp_eq (tgt := 745) hx hb dL_law_739 dL_law_740 (by decide) (fun _ => KF _ _ X) (fun q => absurd (e3 hc) q)
theorem cw_law_L_set {p : Program} {s : State} {m : MethodId} {b : Nat} {meth : Method} {c : Code} {g : kG} (C : CT g p s m #[.ref b] meth c RL cL_law 9 (some .boolean) wsL_law (fun q : Nat => s.heap.size ≤ q)) : vx_CSW room_1 s #[.ref b] RL 125 yL_set cL_set 5 (some .int) [(0, 10, 13, 25), (0, 10, 17, 13)] wsL_set rL_set 15 401 4 := vx_cwSW 4 C.2.2.2.2.2.1 gL_law_L_set rfl rfl rfl (by decide +kernel) ⟨Nat.le_of_ble_eq_true rfl, Nat.le_of_ble_eq_true rfl⟩
theorem cw_law_X6_set {p : Program} {s : State} {m : MethodId} {b : Nat} {meth : Method} {c : Code} {g : kG} (C : CT g p s m #[.ref b] meth c RL cL_law 9 (some .boolean) wsL_law (fun q : Nat => s.heap.size ≤ q)) : CallW room_1 s #[.ref b] RL RX6 127 yX6_set cX6_set 4 (some .int) wsX6_set rX6_set 0 0 2 := cwV 2 C.2.2.2.2.2.1 gL_law_X6_set rfl rfl rfl (by decide +kernel) ⟨Nat.le_of_ble_eq_true rfl, Nat.le_of_ble_eq_true rfl⟩
set_option maxRecDepth 100000 in
set_option maxHeartbeats 4000000 in
theorem law_set (hl9 : l.stackTraces = false) (C : CT g p s m #[.ref b] meth c RL cL_law 9 (some .boolean) wsL_law (fun q : Nat => s.heap.size ≤ q)) (hX : va_X b L xs s s.heap) (hbl : b < s.heap.size) (hi : ∀ k : Int32, k = 1 ∨ k = 2 ∨ k = 3 ∨ k = 4 ∨ k = 5 → vp_in (i + k) L) (G : GR u ts hs ns mm) (X : ST g (fun q : Nat => s.heap.size ≤ q) s H locs (wOut g o f ++ (wB g D R u ts bs ps hs ns ++ wM g a mm))) (hl : lv_has ls 9 [(0, .ref b), (1, .ref (D 0 0)), (2, .ref (a 0)), (3, .ref o), (4, .int i)]) (hfit : cells + 20 ≤ 601024 ∧ slots + 420 ≤ 7293034) (kk : ∀ (H : Heap) (locs : List Loc) (ls : Array Slot) (R : kAd) (u : ShS) (ts : TS) (bs : SS) (ps : PS) (hs : HS) (ns : NS) (mm : MS) (f : Nat → Int64), GR u ts hs ns mm → ST g (fun q : Nat => s.heap.size ≤ q) s H locs (wOut g o f ++ (wB g D R u ts bs ps hs ns ++ wM g a mm)) → lv_has ls 9 [(0, .ref b), (1, .ref (D 0 0)), (2, .ref (a 0)), (3, .ref o), (4, .int i)] → W p l e room_1 s m #[Value.ref b] below meth c H locs (cells + 20) (slots + 420) Q (F0 m 1731 ls [])) : W p l e room_1 s m #[Value.ref b] below meth c H locs cells slots Q (F0 m 748 ls []) := by
  have hx := C.1
  have hb := C.2.1
  have hbA : ¬ (fun q : Nat => s.heap.size ≤ q) b := Nat.not_le.mpr hbl
  refine lv_aload_n hx hb dL_law_748 rfl (lv_at hl 1 rfl) ?_
  refine lv_aload_n hx hb dL_law_749 rfl (lv_at hl 0 rfl) ?_
  refine lv_iload hx hb dL_law_750 (lv_at hl 4 rfl) ?_
  refine lv_iconst (v := 1) hx hb dL_law_752 (by decide) ?_
  refine lv_iadd hx hb dL_law_753 ?_
  refine va_sld hx hb hX hbl hbA X.2.2 (hi 1 (by decide)) dL_law_754 ?_
  refine lv_aload_n hx hb dL_law_755 rfl (lv_at hl 0 rfl) ?_
  refine lv_iload hx hb dL_law_756 (lv_at hl 4 rfl) ?_
  refine lv_iconst (v := 2) hx hb dL_law_758 (by decide) ?_
  refine lv_iadd hx hb dL_law_759 ?_
  refine va_sld hx hb hX hbl hbA X.2.2 (hi 2 (by decide)) dL_law_760 ?_
  refine lv_aload_n hx hb dL_law_761 rfl (lv_at hl 3 rfl) ?_
  obtain ⟨kv, f', w2, bb, m', e1, hK, e2, e3, e4⟩ := st_set l hl9 g D R u ts bs ps hs ns mm G (xs (i + 1).toNatClampNeg) (xs (i + 2).toNatClampNeg) o f
  refine keSW (wM g a mm) pm_l1 C X hK (cw_law_L_set C) (As := [.ref (D 0 0), .int (xs (i + 1).toNatClampNeg), .int (xs (i + 2).toNatClampNeg), .ref o]) rfl hl (rest := []) rfl (Nat.le_of_ble_eq_true rfl) (st2 := [.int kv]) rfl dL_law_762 ⟨by have := hfit.1; show _ ≤ 601024; omega, by have := hfit.2; show _ ≤ 7293034; omega⟩ (w4 := fun t => wOut g o f' ++ (w2 t ++ wM g a mm)) (fun _ => pm_l2) (fun t H locs X => ?_)
  clear hK
  refine lv_istore (lv' := [(5, .int kv), (0, .ref b), (1, .ref (D 0 0)), (2, .ref (a 0)), (3, .ref o), (4, .int i)]) hx hb dL_law_765 hl (by decide) rfl (fun ls hl => ?_)
  refine lv_aload_n hx hb dL_law_767 rfl (lv_at hl 3 rfl) ?_
  refine lv_aload_n hx hb dL_law_768 rfl (lv_at hl 1 rfl) ?_
  refine lv_iload hx hb dL_law_769 (lv_at hl 5 rfl) ?_
  refine lv_iconst (v := 1) hx hb dL_law_771 (by decide) ?_
  refine lv_iadd hx hb dL_law_772 ?_
  refine va_sld hx hb hX hbl hbA X.2.2 (hi 1 (by decide)) dL_law_773 ?_
  refine lv_aload_n hx hb dL_law_774 rfl (lv_at hl 1 rfl) ?_
  refine lv_iload hx hb dL_law_775 (lv_at hl 5 rfl) ?_
  refine lv_iconst (v := 2) hx hb dL_law_777 (by decide) ?_
  refine lv_iadd hx hb dL_law_778 ?_
  refine va_sld hx hb hX hbl hbA X.2.2 (hi 2 (by decide)) dL_law_779 ?_
  refine kVp (wOut g o f' ++ w2 t) pm_l3 C X (kX6_set l g a (xs (i + 1).toNatClampNeg) (xs (i + 2).toNatClampNeg) mm bb m' e1) (cw_law_X6_set C) 0 (ci := 6) rfl rfl (As := [.int (xs (i + 1).toNatClampNeg), .int (xs (i + 2).toNatClampNeg)]) rfl hl (rest := []) rfl (Nat.le_of_ble_eq_true rfl) (st2 := [.int bb]) rfl dL_law_780 ⟨by have := hfit.1; show _ ≤ 601024; omega, by have := hfit.2; show _ ≤ 7293034; omega⟩ (w3 := wOut g o f' ++ (w2 t ++ wM g a m')) pm_l4 (fun H locs X => ?_)
  refine lv_istore (lv' := [(6, .int bb), (5, .int kv), (0, .ref b), (1, .ref (D 0 0)), (2, .ref (a 0)), (3, .ref o), (4, .int i)]) hx hb dL_law_783 hl (by decide) rfl (fun ls hl => ?_)
  refine lv_aload_n hx hb dL_law_785 rfl (lv_at hl 4 rfl) ?_
  refine kVp (wOut g o f' ++ w2 t) pm_l3 C X (kX6_thrown l g a m' kv (by rw [← e2]; rfl)) (cw_law_X6_thrown C) 0 (ci := 6) rfl rfl (As := []) rfl hl (rest := []) rfl (Nat.le_of_ble_eq_true rfl) (st2 := [.int kv]) rfl dL_law_786 ⟨by have := hfit.1; show _ ≤ 601024; omega, by have := hfit.2; show _ ≤ 7293034; omega⟩ (w3 := wOut g o f' ++ (w2 t ++ wM g a m')) pm_l4 (fun H locs X => ?_)
  refine lv_iload hx hb dL_law_789 (lv_at hl 1 rfl) ?_
  refine lv_icmp_eq (tgt := 796) hx hb dL_law_791 (by decide) (fun _ => ?_) (fun hc => absurd rfl hc)
  refine lv_iload hx hb dL_law_796 (lv_at hl 1 rfl) ?_
  obtain ⟨R2, u2, ts2, bs2, ps2, hs2, ns2, hwe, G2⟩ := e4 t
  rw [hwe] at X
  have KF : ∀ (H : Heap) (locs : List Loc), ST g (fun q : Nat => s.heap.size ≤ q) s H locs (wOut g o f' ++ (wB g D R2 u2 ts2 bs2 ps2 hs2 ns2 ++ wM g a m')) → W p l e room_1 s m #[Value.ref b] below meth c H locs (cells + 15 + 0 + 0) (slots + 401 + 0 + 0) Q (F0 m 813 ls []) := by
    intro H locs X
    refine lv_goto (tgt := 1731) hx hb dL_law_813 (by decide) ?_
    refine W.widen (k := cells + 20) (n := slots + 420) (by omega) (by omega) ?_
    exact kk _ _ _ R2 u2 ts2 bs2 ps2 hs2 ns2 m' f' G2 X (lv_sub hl [2, 3, 4, 5, 6] rfl)
  refine lv_if_ne (tgt := 813) hx hb dL_law_798 (by decide) (fun _ => KF _ _ X) (fun hc => ?_)
  refine lv_aload_n hx hb dL_law_801 rfl (lv_at hl 5 rfl) ?_
  refine lv_iconst (v := 0) hx hb dL_law_802 (by decide) ?_
  refine klald C X 0 rfl (i := 0) (by decide) dL_law_803 ?_
  refine lv_iload hx hb dL_law_804 (lv_at hl 0 rfl) ?_
  refine lv_i2l (v := bb.toInt64) hx hb dL_law_806 rfl ?_
  exact klcmp_eq (tgt := 813) hx hb dL_law_807 dL_law_808 (by decide) (fun _ => KF _ _ X) (fun q => absurd (e3 hc) q)
theorem cw_law_L_append {p : Program} {s : State} {m : MethodId} {b : Nat} {meth : Method} {c : Code} {g : kG} (C : CT g p s m #[.ref b] meth c RL cL_law 9 (some .boolean) wsL_law (fun q : Nat => s.heap.size ≤ q)) : vx_CSW room_1 s #[.ref b] RL 128 yL_append cL_append 4 (some .int) [(0, 9, 12, 13), (0, 9, 15, 15)] wsL_append rL_append 2 12 3 := vx_cwSW 3 C.2.2.2.2.2.1 gL_law_L_append rfl rfl rfl (by decide +kernel) ⟨Nat.le_of_ble_eq_true rfl, Nat.le_of_ble_eq_true rfl⟩
theorem cw_law_X6_append {p : Program} {s : State} {m : MethodId} {b : Nat} {meth : Method} {c : Code} {g : kG} (C : CT g p s m #[.ref b] meth c RL cL_law 9 (some .boolean) wsL_law (fun q : Nat => s.heap.size ≤ q)) : CallW room_1 s #[.ref b] RL RX6 130 yX6_append cX6_append 2 (some .int) wsX6_append rX6_append 0 0 1 := cwV 1 C.2.2.2.2.2.1 gL_law_X6_append rfl rfl rfl (by decide +kernel) ⟨Nat.le_of_ble_eq_true rfl, Nat.le_of_ble_eq_true rfl⟩
set_option maxRecDepth 100000 in
set_option maxHeartbeats 4000000 in
theorem law_append (hl9 : l.stackTraces = false) (C : CT g p s m #[.ref b] meth c RL cL_law 9 (some .boolean) wsL_law (fun q : Nat => s.heap.size ≤ q)) (hX : va_X b L xs s s.heap) (hbl : b < s.heap.size) (hi : ∀ k : Int32, k = 1 ∨ k = 2 ∨ k = 3 ∨ k = 4 ∨ k = 5 → vp_in (i + k) L) (G : GR u ts hs ns mm) (X : ST g (fun q : Nat => s.heap.size ≤ q) s H locs (wOut g o f ++ (wB g D R u ts bs ps hs ns ++ wM g a mm))) (hl : lv_has ls 9 [(0, .ref b), (1, .ref (D 0 0)), (2, .ref (a 0)), (3, .ref o), (4, .int i)]) (hfit : cells + 20 ≤ 601024 ∧ slots + 420 ≤ 7293034) (kk : ∀ (H : Heap) (locs : List Loc) (ls : Array Slot) (R : kAd) (u : ShS) (ts : TS) (bs : SS) (ps : PS) (hs : HS) (ns : NS) (mm : MS) (f : Nat → Int64), GR u ts hs ns mm → ST g (fun q : Nat => s.heap.size ≤ q) s H locs (wOut g o f ++ (wB g D R u ts bs ps hs ns ++ wM g a mm)) → lv_has ls 9 [(0, .ref b), (1, .ref (D 0 0)), (2, .ref (a 0)), (3, .ref o), (4, .int i)] → W p l e room_1 s m #[Value.ref b] below meth c H locs (cells + 20) (slots + 420) Q (F0 m 1731 ls [])) : W p l e room_1 s m #[Value.ref b] below meth c H locs cells slots Q (F0 m 816 ls []) := by
  have hx := C.1
  have hb := C.2.1
  have hbA : ¬ (fun q : Nat => s.heap.size ≤ q) b := Nat.not_le.mpr hbl
  refine lv_aload_n hx hb dL_law_816 rfl (lv_at hl 1 rfl) ?_
  refine lv_aload_n hx hb dL_law_817 rfl (lv_at hl 0 rfl) ?_
  refine lv_iload hx hb dL_law_818 (lv_at hl 4 rfl) ?_
  refine lv_iconst (v := 1) hx hb dL_law_820 (by decide) ?_
  refine lv_iadd hx hb dL_law_821 ?_
  refine va_sld hx hb hX hbl hbA X.2.2 (hi 1 (by decide)) dL_law_822 ?_
  refine lv_aload_n hx hb dL_law_823 rfl (lv_at hl 3 rfl) ?_
  obtain ⟨kv, f', w2, bb, m', e1, hK, e2, e3, e4⟩ := st_append l hl9 g D R u ts bs ps hs ns mm G (xs (i + 1).toNatClampNeg) o f
  refine keSW (wM g a mm) pm_l1 C X hK (cw_law_L_append C) (As := [.ref (D 0 0), .int (xs (i + 1).toNatClampNeg), .ref o]) rfl hl (rest := []) rfl (Nat.le_of_ble_eq_true rfl) (st2 := [.int kv]) rfl dL_law_824 ⟨by have := hfit.1; show _ ≤ 601024; omega, by have := hfit.2; show _ ≤ 7293034; omega⟩ (w4 := fun t => wOut g o f' ++ (w2 t ++ wM g a mm)) (fun _ => pm_l2) (fun t H locs X => ?_)
  clear hK
  refine lv_istore (lv' := [(5, .int kv), (0, .ref b), (1, .ref (D 0 0)), (2, .ref (a 0)), (3, .ref o), (4, .int i)]) hx hb dL_law_827 hl (by decide) rfl (fun ls hl => ?_)
  refine lv_aload_n hx hb dL_law_829 rfl (lv_at hl 3 rfl) ?_
  refine lv_aload_n hx hb dL_law_830 rfl (lv_at hl 1 rfl) ?_
  refine lv_iload hx hb dL_law_831 (lv_at hl 5 rfl) ?_
  refine lv_iconst (v := 1) hx hb dL_law_833 (by decide) ?_
  refine lv_iadd hx hb dL_law_834 ?_
  refine va_sld hx hb hX hbl hbA X.2.2 (hi 1 (by decide)) dL_law_835 ?_
  refine kVp (wOut g o f' ++ w2 t) pm_l3 C X (kX6_append l g a (xs (i + 1).toNatClampNeg) mm bb m' e1) (cw_law_X6_append C) 0 (ci := 6) rfl rfl (As := [.int (xs (i + 1).toNatClampNeg)]) rfl hl (rest := []) rfl (Nat.le_of_ble_eq_true rfl) (st2 := [.int bb]) rfl dL_law_836 ⟨by have := hfit.1; show _ ≤ 601024; omega, by have := hfit.2; show _ ≤ 7293034; omega⟩ (w3 := wOut g o f' ++ (w2 t ++ wM g a m')) pm_l4 (fun H locs X => ?_)
  refine lv_istore (lv' := [(6, .int bb), (5, .int kv), (0, .ref b), (1, .ref (D 0 0)), (2, .ref (a 0)), (3, .ref o), (4, .int i)]) hx hb dL_law_839 hl (by decide) rfl (fun ls hl => ?_)
  refine lv_aload_n hx hb dL_law_841 rfl (lv_at hl 4 rfl) ?_
  refine kVp (wOut g o f' ++ w2 t) pm_l3 C X (kX6_thrown l g a m' kv (by rw [← e2]; rfl)) (cw_law_X6_thrown C) 0 (ci := 6) rfl rfl (As := []) rfl hl (rest := []) rfl (Nat.le_of_ble_eq_true rfl) (st2 := [.int kv]) rfl dL_law_842 ⟨by have := hfit.1; show _ ≤ 601024; omega, by have := hfit.2; show _ ≤ 7293034; omega⟩ (w3 := wOut g o f' ++ (w2 t ++ wM g a m')) pm_l4 (fun H locs X => ?_)
  refine lv_iload hx hb dL_law_845 (lv_at hl 1 rfl) ?_
  refine lv_icmp_eq (tgt := 852) hx hb dL_law_847 (by decide) (fun _ => ?_) (fun hc => absurd rfl hc)
  refine lv_iload hx hb dL_law_852 (lv_at hl 1 rfl) ?_
  obtain ⟨R2, u2, ts2, bs2, ps2, hs2, ns2, hwe, G2⟩ := e4 t
  rw [hwe] at X
  have KF : ∀ (H : Heap) (locs : List Loc), ST g (fun q : Nat => s.heap.size ≤ q) s H locs (wOut g o f' ++ (wB g D R2 u2 ts2 bs2 ps2 hs2 ns2 ++ wM g a m')) → W p l e room_1 s m #[Value.ref b] below meth c H locs (cells + 2 + 0 + 0) (slots + 12 + 0 + 0) Q (F0 m 869 ls []) := by
    intro H locs X
    refine lv_goto (tgt := 1731) hx hb dL_law_869 (by decide) ?_
    refine W.widen (k := cells + 20) (n := slots + 420) (by omega) (by omega) ?_
    exact kk _ _ _ R2 u2 ts2 bs2 ps2 hs2 ns2 m' f' G2 X (lv_sub hl [2, 3, 4, 5, 6] rfl)
  refine lv_if_ne (tgt := 869) hx hb dL_law_854 (by decide) (fun _ => KF _ _ X) (fun hc => ?_)
  refine lv_aload_n hx hb dL_law_857 rfl (lv_at hl 5 rfl) ?_
  refine lv_iconst (v := 0) hx hb dL_law_858 (by decide) ?_
  refine klald C X 0 rfl (i := 0) (by decide) dL_law_859 ?_
  refine lv_iload hx hb dL_law_860 (lv_at hl 0 rfl) ?_
  refine lv_i2l (v := bb.toInt64) hx hb dL_law_862 rfl ?_
  exact klcmp_eq (tgt := 869) hx hb dL_law_863 dL_law_864 (by decide) (fun _ => KF _ _ X) (fun q => absurd (e3 hc) q)
theorem cw_law_X5_clearBuffer {p : Program} {s : State} {m : MethodId} {b : Nat} {meth : Method} {c : Code} {g : kG} (C : CT g p s m #[.ref b] meth c RL cL_law 9 (some .boolean) wsL_law (fun q : Nat => s.heap.size ≤ q)) : CallW room_1 s #[.ref b] RL RX5 131 yX5_clearBuffer cX5_clearBuffer 2 (some .int) wsX5_clearBuffer rX5_clearBuffer 0 0 0 := cwV 0 C.2.2.2.2.2.1 gL_law_X5_clearBuffer rfl rfl rfl (by decide +kernel) ⟨Nat.le_of_ble_eq_true rfl, Nat.le_of_ble_eq_true rfl⟩
theorem cw_law_X6_clearBuffer {p : Program} {s : State} {m : MethodId} {b : Nat} {meth : Method} {c : Code} {g : kG} (C : CT g p s m #[.ref b] meth c RL cL_law 9 (some .boolean) wsL_law (fun q : Nat => s.heap.size ≤ q)) : CallW room_1 s #[.ref b] RL RX6 134 yX6_clearBuffer cX6_clearBuffer 2 (some .int) wsX6_clearBuffer rX6_clearBuffer 0 0 0 := cwV 0 C.2.2.2.2.2.1 gL_law_X6_clearBuffer rfl rfl rfl (by decide +kernel) ⟨Nat.le_of_ble_eq_true rfl, Nat.le_of_ble_eq_true rfl⟩
set_option maxRecDepth 100000 in
set_option maxHeartbeats 4000000 in
theorem law_clearBuffer (hl9 : l.stackTraces = false) (C : CT g p s m #[.ref b] meth c RL cL_law 9 (some .boolean) wsL_law (fun q : Nat => s.heap.size ≤ q)) (hX : va_X b L xs s s.heap) (hbl : b < s.heap.size) (hi : ∀ k : Int32, k = 1 ∨ k = 2 ∨ k = 3 ∨ k = 4 ∨ k = 5 → vp_in (i + k) L) (G : GR u ts hs ns mm) (X : ST g (fun q : Nat => s.heap.size ≤ q) s H locs (wOut g o f ++ (wB g D R u ts bs ps hs ns ++ wM g a mm))) (hl : lv_has ls 9 [(0, .ref b), (1, .ref (D 0 0)), (2, .ref (a 0)), (3, .ref o), (4, .int i)]) (hfit : cells + 20 ≤ 601024 ∧ slots + 420 ≤ 7293034) (kk : ∀ (H : Heap) (locs : List Loc) (ls : Array Slot) (R : kAd) (u : ShS) (ts : TS) (bs : SS) (ps : PS) (hs : HS) (ns : NS) (mm : MS) (f : Nat → Int64), GR u ts hs ns mm → ST g (fun q : Nat => s.heap.size ≤ q) s H locs (wOut g o f ++ (wB g D R u ts bs ps hs ns ++ wM g a mm)) → lv_has ls 9 [(0, .ref b), (1, .ref (D 0 0)), (2, .ref (a 0)), (3, .ref o), (4, .int i)] → W p l e room_1 s m #[Value.ref b] below meth c H locs (cells + 20) (slots + 420) Q (F0 m 1731 ls [])) : W p l e room_1 s m #[Value.ref b] below meth c H locs cells slots Q (F0 m 872 ls []) := by
  have hx := C.1
  have hb := C.2.1
  refine lv_aload_n hx hb dL_law_872 rfl (lv_at hl 1 rfl) ?_
  obtain ⟨ov, bb, m', c1, c2, c3⟩ := g_clearBuffer (g := g) (D := D) (R := R) (bs := bs) (ps := ps) G
  have hM := kX5_clearBuffer l hl9 g D R u ts bs ps hs ns ov c1
  generalize obX5_clearBuffer g D R u ts bs ps hs ns ov = out at hM c3
  rcases out with ⟨E, w2⟩ | ⟨r, w2⟩
  · obtain ⟨k, hk, -⟩ := c3
    cases hk
  · obtain ⟨rfl, ht, hw⟩ := c3
    refine kxV (wOut g o f ++ wM g a mm) pm_l5 C X hM (cw_law_X5_clearBuffer C) 0 (ci := 5) rfl rfl (As := []) rfl hl (rest := []) rfl (Nat.le_of_ble_eq_true rfl) (st2 := [.int bb]) rfl dL_law_873 ⟨by have := hfit.1; show _ ≤ 601024; omega, by have := hfit.2; show _ ≤ 7293034; omega⟩ (w3 := fun t => wOut g o f ++ (w2 t ++ wM g a mm)) (fun _ => pm_l6) (fun t H locs X => ?_)
    refine lv_aload_n hx hb dL_law_876 rfl (lv_at hl 2 rfl) ?_
    refine kVp (wOut g o f ++ w2 t) pm_l3 C X (kX6_clearBuffer l g a mm bb m' c2) (cw_law_X6_clearBuffer C) 0 (ci := 6) rfl rfl (As := []) rfl hl (rest := [.int bb]) rfl (Nat.le_of_ble_eq_true rfl) (st2 := [.int bb, .int bb]) rfl dL_law_877 ⟨by have := hfit.1; show _ ≤ 601024; omega, by have := hfit.2; show _ ≤ 7293034; omega⟩ (w3 := wOut g o f ++ (w2 t ++ wM g a m')) pm_l4 (fun H locs X => ?_)
    obtain ⟨R2, u2, ts2, bs2, ps2, hs2, ns2, hwe, G2⟩ := hw t
    rw [hwe] at X
    refine lv_icmp_eq (tgt := 1731) hx hb dL_law_880 (by decide) (fun _ => ?_) (fun hc => absurd rfl hc)
    refine W.widen (k := cells + 20) (n := slots + 420) (by omega) (by omega) ?_
    exact kk _ _ _ R2 u2 ts2 bs2 ps2 hs2 ns2 m' f G2 X hl
theorem cw_law_X5_firstError {p : Program} {s : State} {m : MethodId} {b : Nat} {meth : Method} {c : Code} {g : kG} (C : CT g p s m #[.ref b] meth c RL cL_law 9 (some .boolean) wsL_law (fun q : Nat => s.heap.size ≤ q)) : CallW room_1 s #[.ref b] RL RX5 135 yX5_firstError cX5_firstError 1 (some .int) wsX5_firstError rX5_firstError 0 0 0 := cwV 0 C.2.2.2.2.2.1 gL_law_X5_firstError rfl rfl rfl (by decide +kernel) ⟨Nat.le_of_ble_eq_true rfl, Nat.le_of_ble_eq_true rfl⟩
theorem cw_law_X6_firstError {p : Program} {s : State} {m : MethodId} {b : Nat} {meth : Method} {c : Code} {g : kG} (C : CT g p s m #[.ref b] meth c RL cL_law 9 (some .boolean) wsL_law (fun q : Nat => s.heap.size ≤ q)) : CallW room_1 s #[.ref b] RL RX6 138 yX6_firstError cX6_firstError 2 (some .int) wsX6_firstError rX6_firstError 0 0 0 := cwV 0 C.2.2.2.2.2.1 gL_law_X6_firstError rfl rfl rfl (by decide +kernel) ⟨Nat.le_of_ble_eq_true rfl, Nat.le_of_ble_eq_true rfl⟩
set_option maxRecDepth 100000 in
set_option maxHeartbeats 4000000 in
theorem law_firstError (hl9 : l.stackTraces = false) (C : CT g p s m #[.ref b] meth c RL cL_law 9 (some .boolean) wsL_law (fun q : Nat => s.heap.size ≤ q)) (hX : va_X b L xs s s.heap) (hbl : b < s.heap.size) (hi : ∀ k : Int32, k = 1 ∨ k = 2 ∨ k = 3 ∨ k = 4 ∨ k = 5 → vp_in (i + k) L) (G : GR u ts hs ns mm) (X : ST g (fun q : Nat => s.heap.size ≤ q) s H locs (wOut g o f ++ (wB g D R u ts bs ps hs ns ++ wM g a mm))) (hl : lv_has ls 9 [(0, .ref b), (1, .ref (D 0 0)), (2, .ref (a 0)), (3, .ref o), (4, .int i)]) (hfit : cells + 20 ≤ 601024 ∧ slots + 420 ≤ 7293034) (kk : ∀ (H : Heap) (locs : List Loc) (ls : Array Slot) (R : kAd) (u : ShS) (ts : TS) (bs : SS) (ps : PS) (hs : HS) (ns : NS) (mm : MS) (f : Nat → Int64), GR u ts hs ns mm → ST g (fun q : Nat => s.heap.size ≤ q) s H locs (wOut g o f ++ (wB g D R u ts bs ps hs ns ++ wM g a mm)) → lv_has ls 9 [(0, .ref b), (1, .ref (D 0 0)), (2, .ref (a 0)), (3, .ref o), (4, .int i)] → W p l e room_1 s m #[Value.ref b] below meth c H locs (cells + 20) (slots + 420) Q (F0 m 1731 ls [])) : W p l e room_1 s m #[Value.ref b] below meth c H locs cells slots Q (F0 m 885 ls []) := by
  have hx := C.1
  have hb := C.2.1
  refine lv_aload_n hx hb dL_law_885 rfl (lv_at hl 1 rfl) ?_
  obtain ⟨ov, bb, m', c1, c2, c3⟩ := g_firstError (g := g) (D := D) (R := R) (bs := bs) (ps := ps) G
  have hM := kX5_firstError l hl9 g D R u ts bs ps hs ns ov c1
  generalize obX5_firstError g D R u ts bs ps hs ns ov = out at hM c3
  rcases out with ⟨E, w2⟩ | ⟨r, w2⟩
  · obtain ⟨k, hk, -⟩ := c3
    cases hk
  · obtain ⟨rfl, ht, hw⟩ := c3
    refine kxV (wOut g o f ++ wM g a mm) pm_l5 C X hM (cw_law_X5_firstError C) 0 (ci := 5) rfl rfl (As := []) rfl hl (rest := []) rfl (Nat.le_of_ble_eq_true rfl) (st2 := [.int bb]) rfl dL_law_886 ⟨by have := hfit.1; show _ ≤ 601024; omega, by have := hfit.2; show _ ≤ 7293034; omega⟩ (w3 := fun t => wOut g o f ++ (w2 t ++ wM g a mm)) (fun _ => pm_l6) (fun t H locs X => ?_)
    refine lv_aload_n hx hb dL_law_889 rfl (lv_at hl 2 rfl) ?_
    refine kVp (wOut g o f ++ w2 t) pm_l3 C X (kX6_firstError l g a mm bb m' c2) (cw_law_X6_firstError C) 0 (ci := 6) rfl rfl (As := []) rfl hl (rest := [.int bb]) rfl (Nat.le_of_ble_eq_true rfl) (st2 := [.int bb, .int bb]) rfl dL_law_890 ⟨by have := hfit.1; show _ ≤ 601024; omega, by have := hfit.2; show _ ≤ 7293034; omega⟩ (w3 := wOut g o f ++ (w2 t ++ wM g a m')) pm_l4 (fun H locs X => ?_)
    obtain ⟨R2, u2, ts2, bs2, ps2, hs2, ns2, hwe, G2⟩ := hw t
    rw [hwe] at X
    refine lv_icmp_eq (tgt := 1731) hx hb dL_law_893 (by decide) (fun _ => ?_) (fun hc => absurd rfl hc)
    refine W.widen (k := cells + 20) (n := slots + 420) (by omega) (by omega) ?_
    exact kk _ _ _ R2 u2 ts2 bs2 ps2 hs2 ns2 m' f G2 X hl
theorem cw_law_L_undo {p : Program} {s : State} {m : MethodId} {b : Nat} {meth : Method} {c : Code} {g : kG} (C : CT g p s m #[.ref b] meth c RL cL_law 9 (some .boolean) wsL_law (fun q : Nat => s.heap.size ≤ q)) : vx_CSW room_1 s #[.ref b] RL 139 yL_undo cL_undo 3 (some .int) [(0, 8, 11, 15)] wsL_undo rL_undo 1 6 2 := vx_cwSW 2 C.2.2.2.2.2.1 gL_law_L_undo rfl rfl rfl (by decide +kernel) ⟨Nat.le_of_ble_eq_true rfl, Nat.le_of_ble_eq_true rfl⟩
theorem cw_law_X6_undo {p : Program} {s : State} {m : MethodId} {b : Nat} {meth : Method} {c : Code} {g : kG} (C : CT g p s m #[.ref b] meth c RL cL_law 9 (some .boolean) wsL_law (fun q : Nat => s.heap.size ≤ q)) : CallW room_1 s #[.ref b] RL RX6 141 yX6_undo cX6_undo 2 (some .int) wsX6_undo rX6_undo 0 0 0 := cwV 0 C.2.2.2.2.2.1 gL_law_X6_undo rfl rfl rfl (by decide +kernel) ⟨Nat.le_of_ble_eq_true rfl, Nat.le_of_ble_eq_true rfl⟩
set_option maxRecDepth 100000 in
set_option maxHeartbeats 4000000 in
theorem law_undo (hl9 : l.stackTraces = false) (C : CT g p s m #[.ref b] meth c RL cL_law 9 (some .boolean) wsL_law (fun q : Nat => s.heap.size ≤ q)) (hX : va_X b L xs s s.heap) (hbl : b < s.heap.size) (hi : ∀ k : Int32, k = 1 ∨ k = 2 ∨ k = 3 ∨ k = 4 ∨ k = 5 → vp_in (i + k) L) (G : GR u ts hs ns mm) (X : ST g (fun q : Nat => s.heap.size ≤ q) s H locs (wOut g o f ++ (wB g D R u ts bs ps hs ns ++ wM g a mm))) (hl : lv_has ls 9 [(0, .ref b), (1, .ref (D 0 0)), (2, .ref (a 0)), (3, .ref o), (4, .int i)]) (hfit : cells + 20 ≤ 601024 ∧ slots + 420 ≤ 7293034) (kk : ∀ (H : Heap) (locs : List Loc) (ls : Array Slot) (R : kAd) (u : ShS) (ts : TS) (bs : SS) (ps : PS) (hs : HS) (ns : NS) (mm : MS) (f : Nat → Int64), GR u ts hs ns mm → ST g (fun q : Nat => s.heap.size ≤ q) s H locs (wOut g o f ++ (wB g D R u ts bs ps hs ns ++ wM g a mm)) → lv_has ls 9 [(0, .ref b), (1, .ref (D 0 0)), (2, .ref (a 0)), (3, .ref o), (4, .int i)] → W p l e room_1 s m #[Value.ref b] below meth c H locs (cells + 20) (slots + 420) Q (F0 m 1731 ls [])) : W p l e room_1 s m #[Value.ref b] below meth c H locs cells slots Q (F0 m 898 ls []) := by
  have hx := C.1
  have hb := C.2.1
  have hbA : ¬ (fun q : Nat => s.heap.size ≤ q) b := Nat.not_le.mpr hbl
  refine lv_aload_n hx hb dL_law_898 rfl (lv_at hl 1 rfl) ?_
  refine lv_aload_n hx hb dL_law_899 rfl (lv_at hl 3 rfl) ?_
  obtain ⟨kv, f', w2, bb, m', e1, hK, e2, e3, e4⟩ := st_undo l hl9 g D R u ts bs ps hs ns mm G  o f
  refine keSW (wM g a mm) pm_l1 C X hK (cw_law_L_undo C) (As := [.ref (D 0 0), .ref o]) rfl hl (rest := []) rfl (Nat.le_of_ble_eq_true rfl) (st2 := [.int kv]) rfl dL_law_900 ⟨by have := hfit.1; show _ ≤ 601024; omega, by have := hfit.2; show _ ≤ 7293034; omega⟩ (w4 := fun t => wOut g o f' ++ (w2 t ++ wM g a mm)) (fun _ => pm_l2) (fun t H locs X => ?_)
  clear hK
  refine lv_istore (lv' := [(5, .int kv), (0, .ref b), (1, .ref (D 0 0)), (2, .ref (a 0)), (3, .ref o), (4, .int i)]) hx hb dL_law_903 hl (by decide) rfl (fun ls hl => ?_)
  refine lv_aload_n hx hb dL_law_905 rfl (lv_at hl 3 rfl) ?_
  refine kVp (wOut g o f' ++ w2 t) pm_l3 C X (kX6_undo l g a  mm bb m' e1) (cw_law_X6_undo C) 0 (ci := 6) rfl rfl (As := []) rfl hl (rest := []) rfl (Nat.le_of_ble_eq_true rfl) (st2 := [.int bb]) rfl dL_law_906 ⟨by have := hfit.1; show _ ≤ 601024; omega, by have := hfit.2; show _ ≤ 7293034; omega⟩ (w3 := wOut g o f' ++ (w2 t ++ wM g a m')) pm_l4 (fun H locs X => ?_)
  refine lv_istore (lv' := [(6, .int bb), (5, .int kv), (0, .ref b), (1, .ref (D 0 0)), (2, .ref (a 0)), (3, .ref o), (4, .int i)]) hx hb dL_law_909 hl (by decide) rfl (fun ls hl => ?_)
  refine lv_aload_n hx hb dL_law_911 rfl (lv_at hl 4 rfl) ?_
  refine kVp (wOut g o f' ++ w2 t) pm_l3 C X (kX6_thrown l g a m' kv (by rw [← e2]; rfl)) (cw_law_X6_thrown C) 0 (ci := 6) rfl rfl (As := []) rfl hl (rest := []) rfl (Nat.le_of_ble_eq_true rfl) (st2 := [.int kv]) rfl dL_law_912 ⟨by have := hfit.1; show _ ≤ 601024; omega, by have := hfit.2; show _ ≤ 7293034; omega⟩ (w3 := wOut g o f' ++ (w2 t ++ wM g a m')) pm_l4 (fun H locs X => ?_)
  refine lv_iload hx hb dL_law_915 (lv_at hl 1 rfl) ?_
  refine lv_icmp_eq (tgt := 922) hx hb dL_law_917 (by decide) (fun _ => ?_) (fun hc => absurd rfl hc)
  refine lv_iload hx hb dL_law_922 (lv_at hl 1 rfl) ?_
  obtain ⟨R2, u2, ts2, bs2, ps2, hs2, ns2, hwe, G2⟩ := e4 t
  rw [hwe] at X
  have KF : ∀ (H : Heap) (locs : List Loc), ST g (fun q : Nat => s.heap.size ≤ q) s H locs (wOut g o f' ++ (wB g D R2 u2 ts2 bs2 ps2 hs2 ns2 ++ wM g a m')) → W p l e room_1 s m #[Value.ref b] below meth c H locs (cells + 1 + 0 + 0) (slots + 6 + 0 + 0) Q (F0 m 939 ls []) := by
    intro H locs X
    refine lv_goto (tgt := 1731) hx hb dL_law_939 (by decide) ?_
    refine W.widen (k := cells + 20) (n := slots + 420) (by omega) (by omega) ?_
    exact kk _ _ _ R2 u2 ts2 bs2 ps2 hs2 ns2 m' f' G2 X (lv_sub hl [2, 3, 4, 5, 6] rfl)
  refine lv_if_ne (tgt := 939) hx hb dL_law_924 (by decide) (fun _ => KF _ _ X) (fun hc => ?_)
  refine lv_aload_n hx hb dL_law_927 rfl (lv_at hl 5 rfl) ?_
  refine lv_iconst (v := 0) hx hb dL_law_928 (by decide) ?_
  refine klald C X 0 rfl (i := 0) (by decide) dL_law_929 ?_
  refine lv_iload hx hb dL_law_930 (lv_at hl 0 rfl) ?_
  refine lv_i2l (v := bb.toInt64) hx hb dL_law_932 rfl ?_
  exact klcmp_eq (tgt := 939) hx hb dL_law_933 dL_law_934 (by decide) (fun _ => KF _ _ X) (fun q => absurd (e3 hc) q)
theorem cw_law_L_keep {p : Program} {s : State} {m : MethodId} {b : Nat} {meth : Method} {c : Code} {g : kG} (C : CT g p s m #[.ref b] meth c RL cL_law 9 (some .boolean) wsL_law (fun q : Nat => s.heap.size ≤ q)) : vx_CSW room_1 s #[.ref b] RL 142 yL_keep cL_keep 4 (some .int) [(0, 9, 12, 13)] wsL_keep rL_keep 13 389 3 := vx_cwSW 3 C.2.2.2.2.2.1 gL_law_L_keep rfl rfl rfl (by decide +kernel) ⟨Nat.le_of_ble_eq_true rfl, Nat.le_of_ble_eq_true rfl⟩
theorem cw_law_X6_keep {p : Program} {s : State} {m : MethodId} {b : Nat} {meth : Method} {c : Code} {g : kG} (C : CT g p s m #[.ref b] meth c RL cL_law 9 (some .boolean) wsL_law (fun q : Nat => s.heap.size ≤ q)) : CallW room_1 s #[.ref b] RL RX6 144 yX6_keep cX6_keep 3 (some .int) wsX6_keep rX6_keep 0 0 1 := cwV 1 C.2.2.2.2.2.1 gL_law_X6_keep rfl rfl rfl (by decide +kernel) ⟨Nat.le_of_ble_eq_true rfl, Nat.le_of_ble_eq_true rfl⟩
set_option maxRecDepth 100000 in
set_option maxHeartbeats 4000000 in
theorem law_keep (hl9 : l.stackTraces = false) (C : CT g p s m #[.ref b] meth c RL cL_law 9 (some .boolean) wsL_law (fun q : Nat => s.heap.size ≤ q)) (hX : va_X b L xs s s.heap) (hbl : b < s.heap.size) (hi : ∀ k : Int32, k = 1 ∨ k = 2 ∨ k = 3 ∨ k = 4 ∨ k = 5 → vp_in (i + k) L) (G : GR u ts hs ns mm) (X : ST g (fun q : Nat => s.heap.size ≤ q) s H locs (wOut g o f ++ (wB g D R u ts bs ps hs ns ++ wM g a mm))) (hl : lv_has ls 9 [(0, .ref b), (1, .ref (D 0 0)), (2, .ref (a 0)), (3, .ref o), (4, .int i)]) (hfit : cells + 20 ≤ 601024 ∧ slots + 420 ≤ 7293034) (kk : ∀ (H : Heap) (locs : List Loc) (ls : Array Slot) (R : kAd) (u : ShS) (ts : TS) (bs : SS) (ps : PS) (hs : HS) (ns : NS) (mm : MS) (f : Nat → Int64), GR u ts hs ns mm → ST g (fun q : Nat => s.heap.size ≤ q) s H locs (wOut g o f ++ (wB g D R u ts bs ps hs ns ++ wM g a mm)) → lv_has ls 9 [(0, .ref b), (1, .ref (D 0 0)), (2, .ref (a 0)), (3, .ref o), (4, .int i)] → W p l e room_1 s m #[Value.ref b] below meth c H locs (cells + 20) (slots + 420) Q (F0 m 1731 ls [])) : W p l e room_1 s m #[Value.ref b] below meth c H locs cells slots Q (F0 m 942 ls []) := by
  have hx := C.1
  have hb := C.2.1
  have hbA : ¬ (fun q : Nat => s.heap.size ≤ q) b := Nat.not_le.mpr hbl
  refine lv_aload_n hx hb dL_law_942 rfl (lv_at hl 1 rfl) ?_
  refine lv_aload_n hx hb dL_law_943 rfl (lv_at hl 0 rfl) ?_
  refine lv_iload hx hb dL_law_944 (lv_at hl 4 rfl) ?_
  refine lv_iconst (v := 1) hx hb dL_law_946 (by decide) ?_
  refine lv_iadd hx hb dL_law_947 ?_
  refine va_sld hx hb hX hbl hbA X.2.2 (hi 1 (by decide)) dL_law_948 ?_
  refine lv_aload_n hx hb dL_law_949 rfl (lv_at hl 3 rfl) ?_
  obtain ⟨kv, f', w2, bb, m', e1, hK, e2, e3, e4⟩ := st_keep l hl9 g D R u ts bs ps hs ns mm G (xs (i + 1).toNatClampNeg) o f
  refine keSW (wM g a mm) pm_l1 C X hK (cw_law_L_keep C) (As := [.ref (D 0 0), .int (xs (i + 1).toNatClampNeg), .ref o]) rfl hl (rest := []) rfl (Nat.le_of_ble_eq_true rfl) (st2 := [.int kv]) rfl dL_law_950 ⟨by have := hfit.1; show _ ≤ 601024; omega, by have := hfit.2; show _ ≤ 7293034; omega⟩ (w4 := fun t => wOut g o f' ++ (w2 t ++ wM g a mm)) (fun _ => pm_l2) (fun t H locs X => ?_)
  clear hK
  refine lv_istore (lv' := [(5, .int kv), (0, .ref b), (1, .ref (D 0 0)), (2, .ref (a 0)), (3, .ref o), (4, .int i)]) hx hb dL_law_953 hl (by decide) rfl (fun ls hl => ?_)
  refine lv_aload_n hx hb dL_law_955 rfl (lv_at hl 3 rfl) ?_
  refine lv_aload_n hx hb dL_law_956 rfl (lv_at hl 1 rfl) ?_
  refine lv_iload hx hb dL_law_957 (lv_at hl 5 rfl) ?_
  refine lv_iconst (v := 1) hx hb dL_law_959 (by decide) ?_
  refine lv_iadd hx hb dL_law_960 ?_
  refine va_sld hx hb hX hbl hbA X.2.2 (hi 1 (by decide)) dL_law_961 ?_
  refine kVp (wOut g o f' ++ w2 t) pm_l3 C X (kX6_keep l g a (xs (i + 1).toNatClampNeg) mm bb m' e1) (cw_law_X6_keep C) 0 (ci := 6) rfl rfl (As := [.int (xs (i + 1).toNatClampNeg)]) rfl hl (rest := []) rfl (Nat.le_of_ble_eq_true rfl) (st2 := [.int bb]) rfl dL_law_962 ⟨by have := hfit.1; show _ ≤ 601024; omega, by have := hfit.2; show _ ≤ 7293034; omega⟩ (w3 := wOut g o f' ++ (w2 t ++ wM g a m')) pm_l4 (fun H locs X => ?_)
  refine lv_istore (lv' := [(6, .int bb), (5, .int kv), (0, .ref b), (1, .ref (D 0 0)), (2, .ref (a 0)), (3, .ref o), (4, .int i)]) hx hb dL_law_965 hl (by decide) rfl (fun ls hl => ?_)
  refine lv_aload_n hx hb dL_law_967 rfl (lv_at hl 4 rfl) ?_
  refine kVp (wOut g o f' ++ w2 t) pm_l3 C X (kX6_thrown l g a m' kv (by rw [← e2]; rfl)) (cw_law_X6_thrown C) 0 (ci := 6) rfl rfl (As := []) rfl hl (rest := []) rfl (Nat.le_of_ble_eq_true rfl) (st2 := [.int kv]) rfl dL_law_968 ⟨by have := hfit.1; show _ ≤ 601024; omega, by have := hfit.2; show _ ≤ 7293034; omega⟩ (w3 := wOut g o f' ++ (w2 t ++ wM g a m')) pm_l4 (fun H locs X => ?_)
  refine lv_iload hx hb dL_law_971 (lv_at hl 1 rfl) ?_
  refine lv_icmp_eq (tgt := 978) hx hb dL_law_973 (by decide) (fun _ => ?_) (fun hc => absurd rfl hc)
  refine lv_iload hx hb dL_law_978 (lv_at hl 1 rfl) ?_
  obtain ⟨R2, u2, ts2, bs2, ps2, hs2, ns2, hwe, G2⟩ := e4 t
  rw [hwe] at X
  have KF : ∀ (H : Heap) (locs : List Loc), ST g (fun q : Nat => s.heap.size ≤ q) s H locs (wOut g o f' ++ (wB g D R2 u2 ts2 bs2 ps2 hs2 ns2 ++ wM g a m')) → W p l e room_1 s m #[Value.ref b] below meth c H locs (cells + 13 + 0 + 0) (slots + 389 + 0 + 0) Q (F0 m 995 ls []) := by
    intro H locs X
    refine lv_goto (tgt := 1731) hx hb dL_law_995 (by decide) ?_
    refine W.widen (k := cells + 20) (n := slots + 420) (by omega) (by omega) ?_
    exact kk _ _ _ R2 u2 ts2 bs2 ps2 hs2 ns2 m' f' G2 X (lv_sub hl [2, 3, 4, 5, 6] rfl)
  refine lv_if_ne (tgt := 995) hx hb dL_law_980 (by decide) (fun _ => KF _ _ X) (fun hc => ?_)
  refine lv_aload_n hx hb dL_law_983 rfl (lv_at hl 5 rfl) ?_
  refine lv_iconst (v := 0) hx hb dL_law_984 (by decide) ?_
  refine klald C X 0 rfl (i := 0) (by decide) dL_law_985 ?_
  refine lv_iload hx hb dL_law_986 (lv_at hl 0 rfl) ?_
  refine lv_i2l (v := bb.toInt64) hx hb dL_law_988 rfl ?_
  exact klcmp_eq (tgt := 995) hx hb dL_law_989 dL_law_990 (by decide) (fun _ => KF _ _ X) (fun q => absurd (e3 hc) q)
theorem cw_law_L_goBack {p : Program} {s : State} {m : MethodId} {b : Nat} {meth : Method} {c : Code} {g : kG} (C : CT g p s m #[.ref b] meth c RL cL_law 9 (some .boolean) wsL_law (fun q : Nat => s.heap.size ≤ q)) : vx_CSW room_1 s #[.ref b] RL 145 yL_goBack cL_goBack 4 (some .int) [(0, 9, 12, 13), (0, 9, 15, 15)] wsL_goBack rL_goBack 14 395 3 := vx_cwSW 3 C.2.2.2.2.2.1 gL_law_L_goBack rfl rfl rfl (by decide +kernel) ⟨Nat.le_of_ble_eq_true rfl, Nat.le_of_ble_eq_true rfl⟩
theorem cw_law_X6_goBack {p : Program} {s : State} {m : MethodId} {b : Nat} {meth : Method} {c : Code} {g : kG} (C : CT g p s m #[.ref b] meth c RL cL_law 9 (some .boolean) wsL_law (fun q : Nat => s.heap.size ≤ q)) : CallW room_1 s #[.ref b] RL RX6 147 yX6_goBack cX6_goBack 3 (some .int) wsX6_goBack rX6_goBack 0 0 1 := cwV 1 C.2.2.2.2.2.1 gL_law_X6_goBack rfl rfl rfl (by decide +kernel) ⟨Nat.le_of_ble_eq_true rfl, Nat.le_of_ble_eq_true rfl⟩
set_option maxRecDepth 100000 in
set_option maxHeartbeats 4000000 in
theorem law_goBack (hl9 : l.stackTraces = false) (C : CT g p s m #[.ref b] meth c RL cL_law 9 (some .boolean) wsL_law (fun q : Nat => s.heap.size ≤ q)) (hX : va_X b L xs s s.heap) (hbl : b < s.heap.size) (hi : ∀ k : Int32, k = 1 ∨ k = 2 ∨ k = 3 ∨ k = 4 ∨ k = 5 → vp_in (i + k) L) (G : GR u ts hs ns mm) (X : ST g (fun q : Nat => s.heap.size ≤ q) s H locs (wOut g o f ++ (wB g D R u ts bs ps hs ns ++ wM g a mm))) (hl : lv_has ls 9 [(0, .ref b), (1, .ref (D 0 0)), (2, .ref (a 0)), (3, .ref o), (4, .int i)]) (hfit : cells + 20 ≤ 601024 ∧ slots + 420 ≤ 7293034) (kk : ∀ (H : Heap) (locs : List Loc) (ls : Array Slot) (R : kAd) (u : ShS) (ts : TS) (bs : SS) (ps : PS) (hs : HS) (ns : NS) (mm : MS) (f : Nat → Int64), GR u ts hs ns mm → ST g (fun q : Nat => s.heap.size ≤ q) s H locs (wOut g o f ++ (wB g D R u ts bs ps hs ns ++ wM g a mm)) → lv_has ls 9 [(0, .ref b), (1, .ref (D 0 0)), (2, .ref (a 0)), (3, .ref o), (4, .int i)] → W p l e room_1 s m #[Value.ref b] below meth c H locs (cells + 20) (slots + 420) Q (F0 m 1731 ls [])) : W p l e room_1 s m #[Value.ref b] below meth c H locs cells slots Q (F0 m 998 ls []) := by
  have hx := C.1
  have hb := C.2.1
  have hbA : ¬ (fun q : Nat => s.heap.size ≤ q) b := Nat.not_le.mpr hbl
  refine lv_aload_n hx hb dL_law_998 rfl (lv_at hl 1 rfl) ?_
  refine lv_aload_n hx hb dL_law_999 rfl (lv_at hl 0 rfl) ?_
  refine lv_iload hx hb dL_law_1000 (lv_at hl 4 rfl) ?_
  refine lv_iconst (v := 1) hx hb dL_law_1002 (by decide) ?_
  refine lv_iadd hx hb dL_law_1003 ?_
  refine va_sld hx hb hX hbl hbA X.2.2 (hi 1 (by decide)) dL_law_1004 ?_
  refine lv_aload_n hx hb dL_law_1005 rfl (lv_at hl 3 rfl) ?_
  obtain ⟨kv, f', w2, bb, m', e1, hK, e2, e3, e4⟩ := st_goBack l hl9 g D R u ts bs ps hs ns mm G (xs (i + 1).toNatClampNeg) o f
  refine keSW (wM g a mm) pm_l1 C X hK (cw_law_L_goBack C) (As := [.ref (D 0 0), .int (xs (i + 1).toNatClampNeg), .ref o]) rfl hl (rest := []) rfl (Nat.le_of_ble_eq_true rfl) (st2 := [.int kv]) rfl dL_law_1006 ⟨by have := hfit.1; show _ ≤ 601024; omega, by have := hfit.2; show _ ≤ 7293034; omega⟩ (w4 := fun t => wOut g o f' ++ (w2 t ++ wM g a mm)) (fun _ => pm_l2) (fun t H locs X => ?_)
  clear hK
  refine lv_istore (lv' := [(5, .int kv), (0, .ref b), (1, .ref (D 0 0)), (2, .ref (a 0)), (3, .ref o), (4, .int i)]) hx hb dL_law_1009 hl (by decide) rfl (fun ls hl => ?_)
  refine lv_aload_n hx hb dL_law_1011 rfl (lv_at hl 3 rfl) ?_
  refine lv_aload_n hx hb dL_law_1012 rfl (lv_at hl 1 rfl) ?_
  refine lv_iload hx hb dL_law_1013 (lv_at hl 5 rfl) ?_
  refine lv_iconst (v := 1) hx hb dL_law_1015 (by decide) ?_
  refine lv_iadd hx hb dL_law_1016 ?_
  refine va_sld hx hb hX hbl hbA X.2.2 (hi 1 (by decide)) dL_law_1017 ?_
  refine kVp (wOut g o f' ++ w2 t) pm_l3 C X (kX6_goBack l g a (xs (i + 1).toNatClampNeg) mm bb m' e1) (cw_law_X6_goBack C) 0 (ci := 6) rfl rfl (As := [.int (xs (i + 1).toNatClampNeg)]) rfl hl (rest := []) rfl (Nat.le_of_ble_eq_true rfl) (st2 := [.int bb]) rfl dL_law_1018 ⟨by have := hfit.1; show _ ≤ 601024; omega, by have := hfit.2; show _ ≤ 7293034; omega⟩ (w3 := wOut g o f' ++ (w2 t ++ wM g a m')) pm_l4 (fun H locs X => ?_)
  refine lv_istore (lv' := [(6, .int bb), (5, .int kv), (0, .ref b), (1, .ref (D 0 0)), (2, .ref (a 0)), (3, .ref o), (4, .int i)]) hx hb dL_law_1021 hl (by decide) rfl (fun ls hl => ?_)
  refine lv_aload_n hx hb dL_law_1023 rfl (lv_at hl 4 rfl) ?_
  refine kVp (wOut g o f' ++ w2 t) pm_l3 C X (kX6_thrown l g a m' kv (by rw [← e2]; rfl)) (cw_law_X6_thrown C) 0 (ci := 6) rfl rfl (As := []) rfl hl (rest := []) rfl (Nat.le_of_ble_eq_true rfl) (st2 := [.int kv]) rfl dL_law_1024 ⟨by have := hfit.1; show _ ≤ 601024; omega, by have := hfit.2; show _ ≤ 7293034; omega⟩ (w3 := wOut g o f' ++ (w2 t ++ wM g a m')) pm_l4 (fun H locs X => ?_)
  refine lv_iload hx hb dL_law_1027 (lv_at hl 1 rfl) ?_
  refine lv_icmp_eq (tgt := 1034) hx hb dL_law_1029 (by decide) (fun _ => ?_) (fun hc => absurd rfl hc)
  refine lv_iload hx hb dL_law_1034 (lv_at hl 1 rfl) ?_
  obtain ⟨R2, u2, ts2, bs2, ps2, hs2, ns2, hwe, G2⟩ := e4 t
  rw [hwe] at X
  have KF : ∀ (H : Heap) (locs : List Loc), ST g (fun q : Nat => s.heap.size ≤ q) s H locs (wOut g o f' ++ (wB g D R2 u2 ts2 bs2 ps2 hs2 ns2 ++ wM g a m')) → W p l e room_1 s m #[Value.ref b] below meth c H locs (cells + 14 + 0 + 0) (slots + 395 + 0 + 0) Q (F0 m 1051 ls []) := by
    intro H locs X
    refine lv_goto (tgt := 1731) hx hb dL_law_1051 (by decide) ?_
    refine W.widen (k := cells + 20) (n := slots + 420) (by omega) (by omega) ?_
    exact kk _ _ _ R2 u2 ts2 bs2 ps2 hs2 ns2 m' f' G2 X (lv_sub hl [2, 3, 4, 5, 6] rfl)
  refine lv_if_ne (tgt := 1051) hx hb dL_law_1036 (by decide) (fun _ => KF _ _ X) (fun hc => ?_)
  refine lv_aload_n hx hb dL_law_1039 rfl (lv_at hl 5 rfl) ?_
  refine lv_iconst (v := 0) hx hb dL_law_1040 (by decide) ?_
  refine klald C X 0 rfl (i := 0) (by decide) dL_law_1041 ?_
  refine lv_iload hx hb dL_law_1042 (lv_at hl 0 rfl) ?_
  refine lv_i2l (v := bb.toInt64) hx hb dL_law_1044 rfl ?_
  exact klcmp_eq (tgt := 1051) hx hb dL_law_1045 dL_law_1046 (by decide) (fun _ => KF _ _ X) (fun q => absurd (e3 hc) q)
theorem cw_law_L_point {p : Program} {s : State} {m : MethodId} {b : Nat} {meth : Method} {c : Code} {g : kG} (C : CT g p s m #[.ref b] meth c RL cL_law 9 (some .boolean) wsL_law (fun q : Nat => s.heap.size ≤ q)) : vx_CSW room_1 s #[.ref b] RL 148 yL_point cL_point 6 (some .int) [(0, 12, 15, 25), (0, 12, 19, 13)] wsL_point rL_point 3 18 5 := vx_cwSW 5 C.2.2.2.2.2.1 gL_law_L_point rfl rfl rfl (by decide +kernel) ⟨Nat.le_of_ble_eq_true rfl, Nat.le_of_ble_eq_true rfl⟩
theorem cw_law_X6_point {p : Program} {s : State} {m : MethodId} {b : Nat} {meth : Method} {c : Code} {g : kG} (C : CT g p s m #[.ref b] meth c RL cL_law 9 (some .boolean) wsL_law (fun q : Nat => s.heap.size ≤ q)) : CallW room_1 s #[.ref b] RL RX6 151 yX6_point cX6_point 4 (some .int) wsX6_point rX6_point 0 0 3 := cwV 3 C.2.2.2.2.2.1 gL_law_X6_point rfl rfl rfl (by decide +kernel) ⟨Nat.le_of_ble_eq_true rfl, Nat.le_of_ble_eq_true rfl⟩
set_option maxRecDepth 100000 in
set_option maxHeartbeats 4000000 in
theorem law_point (hl9 : l.stackTraces = false) (C : CT g p s m #[.ref b] meth c RL cL_law 9 (some .boolean) wsL_law (fun q : Nat => s.heap.size ≤ q)) (hX : va_X b L xs s s.heap) (hbl : b < s.heap.size) (hi : ∀ k : Int32, k = 1 ∨ k = 2 ∨ k = 3 ∨ k = 4 ∨ k = 5 → vp_in (i + k) L) (G : GR u ts hs ns mm) (X : ST g (fun q : Nat => s.heap.size ≤ q) s H locs (wOut g o f ++ (wB g D R u ts bs ps hs ns ++ wM g a mm))) (hl : lv_has ls 9 [(0, .ref b), (1, .ref (D 0 0)), (2, .ref (a 0)), (3, .ref o), (4, .int i)]) (hfit : cells + 20 ≤ 601024 ∧ slots + 420 ≤ 7293034) (kk : ∀ (H : Heap) (locs : List Loc) (ls : Array Slot) (R : kAd) (u : ShS) (ts : TS) (bs : SS) (ps : PS) (hs : HS) (ns : NS) (mm : MS) (f : Nat → Int64), GR u ts hs ns mm → ST g (fun q : Nat => s.heap.size ≤ q) s H locs (wOut g o f ++ (wB g D R u ts bs ps hs ns ++ wM g a mm)) → lv_has ls 9 [(0, .ref b), (1, .ref (D 0 0)), (2, .ref (a 0)), (3, .ref o), (4, .int i)] → W p l e room_1 s m #[Value.ref b] below meth c H locs (cells + 20) (slots + 420) Q (F0 m 1731 ls [])) : W p l e room_1 s m #[Value.ref b] below meth c H locs cells slots Q (F0 m 1054 ls []) := by
  have hx := C.1
  have hb := C.2.1
  have hbA : ¬ (fun q : Nat => s.heap.size ≤ q) b := Nat.not_le.mpr hbl
  refine lv_aload_n hx hb dL_law_1054 rfl (lv_at hl 1 rfl) ?_
  refine lv_aload_n hx hb dL_law_1055 rfl (lv_at hl 0 rfl) ?_
  refine lv_iload hx hb dL_law_1056 (lv_at hl 4 rfl) ?_
  refine lv_iconst (v := 1) hx hb dL_law_1058 (by decide) ?_
  refine lv_iadd hx hb dL_law_1059 ?_
  refine va_sld hx hb hX hbl hbA X.2.2 (hi 1 (by decide)) dL_law_1060 ?_
  refine lv_aload_n hx hb dL_law_1061 rfl (lv_at hl 0 rfl) ?_
  refine lv_iload hx hb dL_law_1062 (lv_at hl 4 rfl) ?_
  refine lv_iconst (v := 2) hx hb dL_law_1064 (by decide) ?_
  refine lv_iadd hx hb dL_law_1065 ?_
  refine va_sld hx hb hX hbl hbA X.2.2 (hi 2 (by decide)) dL_law_1066 ?_
  refine lv_aload_n hx hb dL_law_1067 rfl (lv_at hl 0 rfl) ?_
  refine lv_iload hx hb dL_law_1068 (lv_at hl 4 rfl) ?_
  refine lv_iconst (v := 3) hx hb dL_law_1070 (by decide) ?_
  refine lv_iadd hx hb dL_law_1071 ?_
  refine va_sld hx hb hX hbl hbA X.2.2 (hi 3 (by decide)) dL_law_1072 ?_
  refine lv_aload_n hx hb dL_law_1073 rfl (lv_at hl 3 rfl) ?_
  obtain ⟨kv, f', w2, bb, m', e1, hK, e2, e3, e4⟩ := st_point l hl9 g D R u ts bs ps hs ns mm G (xs (i + 1).toNatClampNeg) (xs (i + 2).toNatClampNeg) (xs (i + 3).toNatClampNeg) o f
  refine keSW (wM g a mm) pm_l1 C X hK (cw_law_L_point C) (As := [.ref (D 0 0), .int (xs (i + 1).toNatClampNeg), .int (xs (i + 2).toNatClampNeg), .int (xs (i + 3).toNatClampNeg), .ref o]) rfl hl (rest := []) rfl (Nat.le_of_ble_eq_true rfl) (st2 := [.int kv]) rfl dL_law_1074 ⟨by have := hfit.1; show _ ≤ 601024; omega, by have := hfit.2; show _ ≤ 7293034; omega⟩ (w4 := fun t => wOut g o f' ++ (w2 t ++ wM g a mm)) (fun _ => pm_l2) (fun t H locs X => ?_)
  clear hK
  refine lv_istore (lv' := [(5, .int kv), (0, .ref b), (1, .ref (D 0 0)), (2, .ref (a 0)), (3, .ref o), (4, .int i)]) hx hb dL_law_1077 hl (by decide) rfl (fun ls hl => ?_)
  refine lv_aload_n hx hb dL_law_1079 rfl (lv_at hl 3 rfl) ?_
  refine lv_aload_n hx hb dL_law_1080 rfl (lv_at hl 1 rfl) ?_
  refine lv_iload hx hb dL_law_1081 (lv_at hl 5 rfl) ?_
  refine lv_iconst (v := 1) hx hb dL_law_1083 (by decide) ?_
  refine lv_iadd hx hb dL_law_1084 ?_
  refine va_sld hx hb hX hbl hbA X.2.2 (hi 1 (by decide)) dL_law_1085 ?_
  refine lv_aload_n hx hb dL_law_1086 rfl (lv_at hl 1 rfl) ?_
  refine lv_iload hx hb dL_law_1087 (lv_at hl 5 rfl) ?_
  refine lv_iconst (v := 2) hx hb dL_law_1089 (by decide) ?_
  refine lv_iadd hx hb dL_law_1090 ?_
  refine va_sld hx hb hX hbl hbA X.2.2 (hi 2 (by decide)) dL_law_1091 ?_
  refine lv_aload_n hx hb dL_law_1092 rfl (lv_at hl 1 rfl) ?_
  refine lv_iload hx hb dL_law_1093 (lv_at hl 5 rfl) ?_
  refine lv_iconst (v := 3) hx hb dL_law_1095 (by decide) ?_
  refine lv_iadd hx hb dL_law_1096 ?_
  refine va_sld hx hb hX hbl hbA X.2.2 (hi 3 (by decide)) dL_law_1097 ?_
  refine kVp (wOut g o f' ++ w2 t) pm_l3 C X (kX6_point l g a (xs (i + 1).toNatClampNeg) (xs (i + 2).toNatClampNeg) (xs (i + 3).toNatClampNeg) mm bb m' e1) (cw_law_X6_point C) 0 (ci := 6) rfl rfl (As := [.int (xs (i + 1).toNatClampNeg), .int (xs (i + 2).toNatClampNeg), .int (xs (i + 3).toNatClampNeg)]) rfl hl (rest := []) rfl (Nat.le_of_ble_eq_true rfl) (st2 := [.int bb]) rfl dL_law_1098 ⟨by have := hfit.1; show _ ≤ 601024; omega, by have := hfit.2; show _ ≤ 7293034; omega⟩ (w3 := wOut g o f' ++ (w2 t ++ wM g a m')) pm_l4 (fun H locs X => ?_)
  refine lv_istore (lv' := [(6, .int bb), (5, .int kv), (0, .ref b), (1, .ref (D 0 0)), (2, .ref (a 0)), (3, .ref o), (4, .int i)]) hx hb dL_law_1101 hl (by decide) rfl (fun ls hl => ?_)
  refine lv_aload_n hx hb dL_law_1103 rfl (lv_at hl 4 rfl) ?_
  refine kVp (wOut g o f' ++ w2 t) pm_l3 C X (kX6_thrown l g a m' kv (by rw [← e2]; rfl)) (cw_law_X6_thrown C) 0 (ci := 6) rfl rfl (As := []) rfl hl (rest := []) rfl (Nat.le_of_ble_eq_true rfl) (st2 := [.int kv]) rfl dL_law_1104 ⟨by have := hfit.1; show _ ≤ 601024; omega, by have := hfit.2; show _ ≤ 7293034; omega⟩ (w3 := wOut g o f' ++ (w2 t ++ wM g a m')) pm_l4 (fun H locs X => ?_)
  refine lv_iload hx hb dL_law_1107 (lv_at hl 1 rfl) ?_
  refine lv_icmp_eq (tgt := 1114) hx hb dL_law_1109 (by decide) (fun _ => ?_) (fun hc => absurd rfl hc)
  refine lv_iload hx hb dL_law_1114 (lv_at hl 1 rfl) ?_
  obtain ⟨R2, u2, ts2, bs2, ps2, hs2, ns2, hwe, G2⟩ := e4 t
  rw [hwe] at X
  have KF : ∀ (H : Heap) (locs : List Loc), ST g (fun q : Nat => s.heap.size ≤ q) s H locs (wOut g o f' ++ (wB g D R2 u2 ts2 bs2 ps2 hs2 ns2 ++ wM g a m')) → W p l e room_1 s m #[Value.ref b] below meth c H locs (cells + 3 + 0 + 0) (slots + 18 + 0 + 0) Q (F0 m 1131 ls []) := by
    intro H locs X
    refine lv_goto (tgt := 1731) hx hb dL_law_1131 (by decide) ?_
    refine W.widen (k := cells + 20) (n := slots + 420) (by omega) (by omega) ?_
    exact kk _ _ _ R2 u2 ts2 bs2 ps2 hs2 ns2 m' f' G2 X (lv_sub hl [2, 3, 4, 5, 6] rfl)
  refine lv_if_ne (tgt := 1131) hx hb dL_law_1116 (by decide) (fun _ => KF _ _ X) (fun hc => ?_)
  refine lv_aload_n hx hb dL_law_1119 rfl (lv_at hl 5 rfl) ?_
  refine lv_iconst (v := 0) hx hb dL_law_1120 (by decide) ?_
  refine klald C X 0 rfl (i := 0) (by decide) dL_law_1121 ?_
  refine lv_iload hx hb dL_law_1122 (lv_at hl 0 rfl) ?_
  refine lv_i2l (v := bb.toInt64) hx hb dL_law_1124 rfl ?_
  exact klcmp_eq (tgt := 1131) hx hb dL_law_1125 dL_law_1126 (by decide) (fun _ => KF _ _ X) (fun q => absurd (e3 hc) q)
theorem cw_law_L_strokeOf {p : Program} {s : State} {m : MethodId} {b : Nat} {meth : Method} {c : Code} {g : kG} (C : CT g p s m #[.ref b] meth c RL cL_law 9 (some .boolean) wsL_law (fun q : Nat => s.heap.size ≤ q)) : vx_CSW room_1 s #[.ref b] RL 152 yL_strokeOf cL_strokeOf 5 (some .int) [(0, 10, 13, 25), (0, 10, 17, 13)] wsL_strokeOf rL_strokeOf 2 12 4 := vx_cwSW 4 C.2.2.2.2.2.1 gL_law_L_strokeOf rfl rfl rfl (by decide +kernel) ⟨Nat.le_of_ble_eq_true rfl, Nat.le_of_ble_eq_true rfl⟩
theorem cw_law_X6_strokeOf {p : Program} {s : State} {m : MethodId} {b : Nat} {meth : Method} {c : Code} {g : kG} (C : CT g p s m #[.ref b] meth c RL cL_law 9 (some .boolean) wsL_law (fun q : Nat => s.heap.size ≤ q)) : CallW room_1 s #[.ref b] RL RX6 154 yX6_strokeOf cX6_strokeOf 3 (some .int) wsX6_strokeOf rX6_strokeOf 0 0 2 := cwV 2 C.2.2.2.2.2.1 gL_law_X6_strokeOf rfl rfl rfl (by decide +kernel) ⟨Nat.le_of_ble_eq_true rfl, Nat.le_of_ble_eq_true rfl⟩
set_option maxRecDepth 100000 in
set_option maxHeartbeats 4000000 in
theorem law_strokeOf (hl9 : l.stackTraces = false) (C : CT g p s m #[.ref b] meth c RL cL_law 9 (some .boolean) wsL_law (fun q : Nat => s.heap.size ≤ q)) (hX : va_X b L xs s s.heap) (hbl : b < s.heap.size) (hi : ∀ k : Int32, k = 1 ∨ k = 2 ∨ k = 3 ∨ k = 4 ∨ k = 5 → vp_in (i + k) L) (G : GR u ts hs ns mm) (X : ST g (fun q : Nat => s.heap.size ≤ q) s H locs (wOut g o f ++ (wB g D R u ts bs ps hs ns ++ wM g a mm))) (hl : lv_has ls 9 [(0, .ref b), (1, .ref (D 0 0)), (2, .ref (a 0)), (3, .ref o), (4, .int i)]) (hfit : cells + 20 ≤ 601024 ∧ slots + 420 ≤ 7293034) (kk : ∀ (H : Heap) (locs : List Loc) (ls : Array Slot) (R : kAd) (u : ShS) (ts : TS) (bs : SS) (ps : PS) (hs : HS) (ns : NS) (mm : MS) (f : Nat → Int64), GR u ts hs ns mm → ST g (fun q : Nat => s.heap.size ≤ q) s H locs (wOut g o f ++ (wB g D R u ts bs ps hs ns ++ wM g a mm)) → lv_has ls 9 [(0, .ref b), (1, .ref (D 0 0)), (2, .ref (a 0)), (3, .ref o), (4, .int i)] → W p l e room_1 s m #[Value.ref b] below meth c H locs (cells + 20) (slots + 420) Q (F0 m 1731 ls [])) : W p l e room_1 s m #[Value.ref b] below meth c H locs cells slots Q (F0 m 1134 ls []) := by
  have hx := C.1
  have hb := C.2.1
  have hbA : ¬ (fun q : Nat => s.heap.size ≤ q) b := Nat.not_le.mpr hbl
  refine lv_aload_n hx hb dL_law_1134 rfl (lv_at hl 1 rfl) ?_
  refine lv_aload_n hx hb dL_law_1135 rfl (lv_at hl 0 rfl) ?_
  refine lv_iload hx hb dL_law_1136 (lv_at hl 4 rfl) ?_
  refine lv_iconst (v := 1) hx hb dL_law_1138 (by decide) ?_
  refine lv_iadd hx hb dL_law_1139 ?_
  refine va_sld hx hb hX hbl hbA X.2.2 (hi 1 (by decide)) dL_law_1140 ?_
  refine lv_aload_n hx hb dL_law_1141 rfl (lv_at hl 0 rfl) ?_
  refine lv_iload hx hb dL_law_1142 (lv_at hl 4 rfl) ?_
  refine lv_iconst (v := 2) hx hb dL_law_1144 (by decide) ?_
  refine lv_iadd hx hb dL_law_1145 ?_
  refine va_sld hx hb hX hbl hbA X.2.2 (hi 2 (by decide)) dL_law_1146 ?_
  refine lv_aload_n hx hb dL_law_1147 rfl (lv_at hl 3 rfl) ?_
  obtain ⟨kv, f', w2, bb, m', e1, hK, e2, e3, e4⟩ := st_strokeOf l hl9 g D R u ts bs ps hs ns mm G (xs (i + 1).toNatClampNeg) (xs (i + 2).toNatClampNeg) o f
  refine keSW (wM g a mm) pm_l1 C X hK (cw_law_L_strokeOf C) (As := [.ref (D 0 0), .int (xs (i + 1).toNatClampNeg), .int (xs (i + 2).toNatClampNeg), .ref o]) rfl hl (rest := []) rfl (Nat.le_of_ble_eq_true rfl) (st2 := [.int kv]) rfl dL_law_1148 ⟨by have := hfit.1; show _ ≤ 601024; omega, by have := hfit.2; show _ ≤ 7293034; omega⟩ (w4 := fun t => wOut g o f' ++ (w2 t ++ wM g a mm)) (fun _ => pm_l2) (fun t H locs X => ?_)
  clear hK
  refine lv_istore (lv' := [(5, .int kv), (0, .ref b), (1, .ref (D 0 0)), (2, .ref (a 0)), (3, .ref o), (4, .int i)]) hx hb dL_law_1151 hl (by decide) rfl (fun ls hl => ?_)
  refine lv_aload_n hx hb dL_law_1153 rfl (lv_at hl 3 rfl) ?_
  refine lv_aload_n hx hb dL_law_1154 rfl (lv_at hl 1 rfl) ?_
  refine lv_iload hx hb dL_law_1155 (lv_at hl 5 rfl) ?_
  refine lv_iconst (v := 1) hx hb dL_law_1157 (by decide) ?_
  refine lv_iadd hx hb dL_law_1158 ?_
  refine va_sld hx hb hX hbl hbA X.2.2 (hi 1 (by decide)) dL_law_1159 ?_
  refine lv_aload_n hx hb dL_law_1160 rfl (lv_at hl 1 rfl) ?_
  refine lv_iload hx hb dL_law_1161 (lv_at hl 5 rfl) ?_
  refine lv_iconst (v := 2) hx hb dL_law_1163 (by decide) ?_
  refine lv_iadd hx hb dL_law_1164 ?_
  refine va_sld hx hb hX hbl hbA X.2.2 (hi 2 (by decide)) dL_law_1165 ?_
  refine kVp (wOut g o f' ++ w2 t) pm_l3 C X (kX6_strokeOf l g a (xs (i + 1).toNatClampNeg) (xs (i + 2).toNatClampNeg) mm bb m' e1) (cw_law_X6_strokeOf C) 0 (ci := 6) rfl rfl (As := [.int (xs (i + 1).toNatClampNeg), .int (xs (i + 2).toNatClampNeg)]) rfl hl (rest := []) rfl (Nat.le_of_ble_eq_true rfl) (st2 := [.int bb]) rfl dL_law_1166 ⟨by have := hfit.1; show _ ≤ 601024; omega, by have := hfit.2; show _ ≤ 7293034; omega⟩ (w3 := wOut g o f' ++ (w2 t ++ wM g a m')) pm_l4 (fun H locs X => ?_)
  refine lv_istore (lv' := [(6, .int bb), (5, .int kv), (0, .ref b), (1, .ref (D 0 0)), (2, .ref (a 0)), (3, .ref o), (4, .int i)]) hx hb dL_law_1169 hl (by decide) rfl (fun ls hl => ?_)
  refine lv_aload_n hx hb dL_law_1171 rfl (lv_at hl 4 rfl) ?_
  refine kVp (wOut g o f' ++ w2 t) pm_l3 C X (kX6_thrown l g a m' kv (by rw [← e2]; rfl)) (cw_law_X6_thrown C) 0 (ci := 6) rfl rfl (As := []) rfl hl (rest := []) rfl (Nat.le_of_ble_eq_true rfl) (st2 := [.int kv]) rfl dL_law_1172 ⟨by have := hfit.1; show _ ≤ 601024; omega, by have := hfit.2; show _ ≤ 7293034; omega⟩ (w3 := wOut g o f' ++ (w2 t ++ wM g a m')) pm_l4 (fun H locs X => ?_)
  refine lv_iload hx hb dL_law_1175 (lv_at hl 1 rfl) ?_
  refine lv_icmp_eq (tgt := 1182) hx hb dL_law_1177 (by decide) (fun _ => ?_) (fun hc => absurd rfl hc)
  refine lv_iload hx hb dL_law_1182 (lv_at hl 1 rfl) ?_
  obtain ⟨R2, u2, ts2, bs2, ps2, hs2, ns2, hwe, G2⟩ := e4 t
  rw [hwe] at X
  have KF : ∀ (H : Heap) (locs : List Loc), ST g (fun q : Nat => s.heap.size ≤ q) s H locs (wOut g o f' ++ (wB g D R2 u2 ts2 bs2 ps2 hs2 ns2 ++ wM g a m')) → W p l e room_1 s m #[Value.ref b] below meth c H locs (cells + 2 + 0 + 0) (slots + 12 + 0 + 0) Q (F0 m 1199 ls []) := by
    intro H locs X
    refine lv_goto (tgt := 1731) hx hb dL_law_1199 (by decide) ?_
    refine W.widen (k := cells + 20) (n := slots + 420) (by omega) (by omega) ?_
    exact kk _ _ _ R2 u2 ts2 bs2 ps2 hs2 ns2 m' f' G2 X (lv_sub hl [2, 3, 4, 5, 6] rfl)
  refine lv_if_ne (tgt := 1199) hx hb dL_law_1184 (by decide) (fun _ => KF _ _ X) (fun hc => ?_)
  refine lv_aload_n hx hb dL_law_1187 rfl (lv_at hl 5 rfl) ?_
  refine lv_iconst (v := 0) hx hb dL_law_1188 (by decide) ?_
  refine klald C X 0 rfl (i := 0) (by decide) dL_law_1189 ?_
  refine lv_iload hx hb dL_law_1190 (lv_at hl 0 rfl) ?_
  refine lv_i2l (v := bb.toInt64) hx hb dL_law_1192 rfl ?_
  exact klcmp_eq (tgt := 1199) hx hb dL_law_1193 dL_law_1194 (by decide) (fun _ => KF _ _ X) (fun q => absurd (e3 hc) q)
theorem cw_law_L_distance {p : Program} {s : State} {m : MethodId} {b : Nat} {meth : Method} {c : Code} {g : kG} (C : CT g p s m #[.ref b] meth c RL cL_law 9 (some .boolean) wsL_law (fun q : Nat => s.heap.size ≤ q)) : vx_CSW room_1 s #[.ref b] RL 155 yL_distance cL_distance 7 (some .int) [(0, 14, 17, 25)] wsL_distance rL_distance 4 24 6 := vx_cwSW 6 C.2.2.2.2.2.1 gL_law_L_distance rfl rfl rfl (by decide +kernel) ⟨Nat.le_of_ble_eq_true rfl, Nat.le_of_ble_eq_true rfl⟩
theorem cw_law_X6_distance {p : Program} {s : State} {m : MethodId} {b : Nat} {meth : Method} {c : Code} {g : kG} (C : CT g p s m #[.ref b] meth c RL cL_law 9 (some .boolean) wsL_law (fun q : Nat => s.heap.size ≤ q)) : CallW room_1 s #[.ref b] RL RX6 157 yX6_distance cX6_distance 5 (some .int) wsX6_distance rX6_distance 0 0 4 := cwV 4 C.2.2.2.2.2.1 gL_law_X6_distance rfl rfl rfl (by decide +kernel) ⟨Nat.le_of_ble_eq_true rfl, Nat.le_of_ble_eq_true rfl⟩
set_option maxRecDepth 100000 in
set_option maxHeartbeats 4000000 in
theorem law_distance (hl9 : l.stackTraces = false) (C : CT g p s m #[.ref b] meth c RL cL_law 9 (some .boolean) wsL_law (fun q : Nat => s.heap.size ≤ q)) (hX : va_X b L xs s s.heap) (hbl : b < s.heap.size) (hi : ∀ k : Int32, k = 1 ∨ k = 2 ∨ k = 3 ∨ k = 4 ∨ k = 5 → vp_in (i + k) L) (G : GR u ts hs ns mm) (X : ST g (fun q : Nat => s.heap.size ≤ q) s H locs (wOut g o f ++ (wB g D R u ts bs ps hs ns ++ wM g a mm))) (hl : lv_has ls 9 [(0, .ref b), (1, .ref (D 0 0)), (2, .ref (a 0)), (3, .ref o), (4, .int i)]) (hfit : cells + 20 ≤ 601024 ∧ slots + 420 ≤ 7293034) (kk : ∀ (H : Heap) (locs : List Loc) (ls : Array Slot) (R : kAd) (u : ShS) (ts : TS) (bs : SS) (ps : PS) (hs : HS) (ns : NS) (mm : MS) (f : Nat → Int64), GR u ts hs ns mm → ST g (fun q : Nat => s.heap.size ≤ q) s H locs (wOut g o f ++ (wB g D R u ts bs ps hs ns ++ wM g a mm)) → lv_has ls 9 [(0, .ref b), (1, .ref (D 0 0)), (2, .ref (a 0)), (3, .ref o), (4, .int i)] → W p l e room_1 s m #[Value.ref b] below meth c H locs (cells + 20) (slots + 420) Q (F0 m 1731 ls [])) : W p l e room_1 s m #[Value.ref b] below meth c H locs cells slots Q (F0 m 1202 ls []) := by
  have hx := C.1
  have hb := C.2.1
  have hbA : ¬ (fun q : Nat => s.heap.size ≤ q) b := Nat.not_le.mpr hbl
  refine lv_aload_n hx hb dL_law_1202 rfl (lv_at hl 1 rfl) ?_
  refine lv_aload_n hx hb dL_law_1203 rfl (lv_at hl 0 rfl) ?_
  refine lv_iload hx hb dL_law_1204 (lv_at hl 4 rfl) ?_
  refine lv_iconst (v := 1) hx hb dL_law_1206 (by decide) ?_
  refine lv_iadd hx hb dL_law_1207 ?_
  refine va_sld hx hb hX hbl hbA X.2.2 (hi 1 (by decide)) dL_law_1208 ?_
  refine lv_aload_n hx hb dL_law_1209 rfl (lv_at hl 0 rfl) ?_
  refine lv_iload hx hb dL_law_1210 (lv_at hl 4 rfl) ?_
  refine lv_iconst (v := 2) hx hb dL_law_1212 (by decide) ?_
  refine lv_iadd hx hb dL_law_1213 ?_
  refine va_sld hx hb hX hbl hbA X.2.2 (hi 2 (by decide)) dL_law_1214 ?_
  refine lv_aload_n hx hb dL_law_1215 rfl (lv_at hl 0 rfl) ?_
  refine lv_iload hx hb dL_law_1216 (lv_at hl 4 rfl) ?_
  refine lv_iconst (v := 3) hx hb dL_law_1218 (by decide) ?_
  refine lv_iadd hx hb dL_law_1219 ?_
  refine va_sld hx hb hX hbl hbA X.2.2 (hi 3 (by decide)) dL_law_1220 ?_
  refine lv_aload_n hx hb dL_law_1221 rfl (lv_at hl 0 rfl) ?_
  refine lv_iload hx hb dL_law_1222 (lv_at hl 4 rfl) ?_
  refine lv_iconst (v := 4) hx hb dL_law_1224 (by decide) ?_
  refine lv_iadd hx hb dL_law_1225 ?_
  refine va_sld hx hb hX hbl hbA X.2.2 (hi 4 (by decide)) dL_law_1226 ?_
  refine lv_aload_n hx hb dL_law_1227 rfl (lv_at hl 3 rfl) ?_
  obtain ⟨kv, f', w2, bb, m', e1, hK, e2, e3, e4⟩ := st_distance l hl9 g D R u ts bs ps hs ns mm G (xs (i + 1).toNatClampNeg) (xs (i + 2).toNatClampNeg) (xs (i + 3).toNatClampNeg) (xs (i + 4).toNatClampNeg) o f
  refine keSW (wM g a mm) pm_l1 C X hK (cw_law_L_distance C) (As := [.ref (D 0 0), .int (xs (i + 1).toNatClampNeg), .int (xs (i + 2).toNatClampNeg), .int (xs (i + 3).toNatClampNeg), .int (xs (i + 4).toNatClampNeg), .ref o]) rfl hl (rest := []) rfl (Nat.le_of_ble_eq_true rfl) (st2 := [.int kv]) rfl dL_law_1228 ⟨by have := hfit.1; show _ ≤ 601024; omega, by have := hfit.2; show _ ≤ 7293034; omega⟩ (w4 := fun t => wOut g o f' ++ (w2 t ++ wM g a mm)) (fun _ => pm_l2) (fun t H locs X => ?_)
  clear hK
  refine lv_istore (lv' := [(5, .int kv), (0, .ref b), (1, .ref (D 0 0)), (2, .ref (a 0)), (3, .ref o), (4, .int i)]) hx hb dL_law_1231 hl (by decide) rfl (fun ls hl => ?_)
  refine lv_aload_n hx hb dL_law_1233 rfl (lv_at hl 3 rfl) ?_
  refine lv_aload_n hx hb dL_law_1234 rfl (lv_at hl 1 rfl) ?_
  refine lv_iload hx hb dL_law_1235 (lv_at hl 5 rfl) ?_
  refine lv_iconst (v := 1) hx hb dL_law_1237 (by decide) ?_
  refine lv_iadd hx hb dL_law_1238 ?_
  refine va_sld hx hb hX hbl hbA X.2.2 (hi 1 (by decide)) dL_law_1239 ?_
  refine lv_aload_n hx hb dL_law_1240 rfl (lv_at hl 1 rfl) ?_
  refine lv_iload hx hb dL_law_1241 (lv_at hl 5 rfl) ?_
  refine lv_iconst (v := 2) hx hb dL_law_1243 (by decide) ?_
  refine lv_iadd hx hb dL_law_1244 ?_
  refine va_sld hx hb hX hbl hbA X.2.2 (hi 2 (by decide)) dL_law_1245 ?_
  refine lv_aload_n hx hb dL_law_1246 rfl (lv_at hl 1 rfl) ?_
  refine lv_iload hx hb dL_law_1247 (lv_at hl 5 rfl) ?_
  refine lv_iconst (v := 3) hx hb dL_law_1249 (by decide) ?_
  refine lv_iadd hx hb dL_law_1250 ?_
  refine va_sld hx hb hX hbl hbA X.2.2 (hi 3 (by decide)) dL_law_1251 ?_
  refine lv_aload_n hx hb dL_law_1252 rfl (lv_at hl 1 rfl) ?_
  refine lv_iload hx hb dL_law_1253 (lv_at hl 5 rfl) ?_
  refine lv_iconst (v := 4) hx hb dL_law_1255 (by decide) ?_
  refine lv_iadd hx hb dL_law_1256 ?_
  refine va_sld hx hb hX hbl hbA X.2.2 (hi 4 (by decide)) dL_law_1257 ?_
  refine kVp (wOut g o f' ++ w2 t) pm_l3 C X (kX6_distance l g a (xs (i + 1).toNatClampNeg) (xs (i + 2).toNatClampNeg) (xs (i + 3).toNatClampNeg) (xs (i + 4).toNatClampNeg) mm bb m' e1) (cw_law_X6_distance C) 0 (ci := 6) rfl rfl (As := [.int (xs (i + 1).toNatClampNeg), .int (xs (i + 2).toNatClampNeg), .int (xs (i + 3).toNatClampNeg), .int (xs (i + 4).toNatClampNeg)]) rfl hl (rest := []) rfl (Nat.le_of_ble_eq_true rfl) (st2 := [.int bb]) rfl dL_law_1258 ⟨by have := hfit.1; show _ ≤ 601024; omega, by have := hfit.2; show _ ≤ 7293034; omega⟩ (w3 := wOut g o f' ++ (w2 t ++ wM g a m')) pm_l4 (fun H locs X => ?_)
  refine lv_istore (lv' := [(6, .int bb), (5, .int kv), (0, .ref b), (1, .ref (D 0 0)), (2, .ref (a 0)), (3, .ref o), (4, .int i)]) hx hb dL_law_1261 hl (by decide) rfl (fun ls hl => ?_)
  refine lv_aload_n hx hb dL_law_1263 rfl (lv_at hl 4 rfl) ?_
  refine kVp (wOut g o f' ++ w2 t) pm_l3 C X (kX6_thrown l g a m' kv (by rw [← e2]; rfl)) (cw_law_X6_thrown C) 0 (ci := 6) rfl rfl (As := []) rfl hl (rest := []) rfl (Nat.le_of_ble_eq_true rfl) (st2 := [.int kv]) rfl dL_law_1264 ⟨by have := hfit.1; show _ ≤ 601024; omega, by have := hfit.2; show _ ≤ 7293034; omega⟩ (w3 := wOut g o f' ++ (w2 t ++ wM g a m')) pm_l4 (fun H locs X => ?_)
  refine lv_iload hx hb dL_law_1267 (lv_at hl 1 rfl) ?_
  refine lv_icmp_eq (tgt := 1274) hx hb dL_law_1269 (by decide) (fun _ => ?_) (fun hc => absurd rfl hc)
  refine lv_iload hx hb dL_law_1274 (lv_at hl 1 rfl) ?_
  obtain ⟨R2, u2, ts2, bs2, ps2, hs2, ns2, hwe, G2⟩ := e4 t
  rw [hwe] at X
  have KF : ∀ (H : Heap) (locs : List Loc), ST g (fun q : Nat => s.heap.size ≤ q) s H locs (wOut g o f' ++ (wB g D R2 u2 ts2 bs2 ps2 hs2 ns2 ++ wM g a m')) → W p l e room_1 s m #[Value.ref b] below meth c H locs (cells + 4 + 0 + 0) (slots + 24 + 0 + 0) Q (F0 m 1291 ls []) := by
    intro H locs X
    refine lv_goto (tgt := 1731) hx hb dL_law_1291 (by decide) ?_
    refine W.widen (k := cells + 20) (n := slots + 420) (by omega) (by omega) ?_
    exact kk _ _ _ R2 u2 ts2 bs2 ps2 hs2 ns2 m' f' G2 X (lv_sub hl [2, 3, 4, 5, 6] rfl)
  refine lv_if_ne (tgt := 1291) hx hb dL_law_1276 (by decide) (fun _ => KF _ _ X) (fun hc => ?_)
  refine lv_aload_n hx hb dL_law_1279 rfl (lv_at hl 5 rfl) ?_
  refine lv_iconst (v := 0) hx hb dL_law_1280 (by decide) ?_
  refine klald C X 0 rfl (i := 0) (by decide) dL_law_1281 ?_
  refine lv_iload hx hb dL_law_1282 (lv_at hl 0 rfl) ?_
  refine lv_i2l (v := bb.toInt64) hx hb dL_law_1284 rfl ?_
  exact klcmp_eq (tgt := 1291) hx hb dL_law_1285 dL_law_1286 (by decide) (fun _ => KF _ _ X) (fun q => absurd (e3 hc) q)
theorem cw_law_L_crossings {p : Program} {s : State} {m : MethodId} {b : Nat} {meth : Method} {c : Code} {g : kG} (C : CT g p s m #[.ref b] meth c RL cL_law 9 (some .boolean) wsL_law (fun q : Nat => s.heap.size ≤ q)) : vx_CSW room_1 s #[.ref b] RL 158 yL_crossings cL_crossings 4 (some .int) [(0, 9, 12, 25)] wsL_crossings rL_crossings 1 6 3 := vx_cwSW 3 C.2.2.2.2.2.1 gL_law_L_crossings rfl rfl rfl (by decide +kernel) ⟨Nat.le_of_ble_eq_true rfl, Nat.le_of_ble_eq_true rfl⟩
theorem cw_law_X6_crossings {p : Program} {s : State} {m : MethodId} {b : Nat} {meth : Method} {c : Code} {g : kG} (C : CT g p s m #[.ref b] meth c RL cL_law 9 (some .boolean) wsL_law (fun q : Nat => s.heap.size ≤ q)) : CallW room_1 s #[.ref b] RL RX6 160 yX6_crossings cX6_crossings 9 (some .int) wsX6_crossings rX6_crossings 0 0 1 := cwV 1 C.2.2.2.2.2.1 gL_law_X6_crossings rfl rfl rfl (by decide +kernel) ⟨Nat.le_of_ble_eq_true rfl, Nat.le_of_ble_eq_true rfl⟩
set_option maxRecDepth 100000 in
set_option maxHeartbeats 4000000 in
theorem law_crossings (hl9 : l.stackTraces = false) (C : CT g p s m #[.ref b] meth c RL cL_law 9 (some .boolean) wsL_law (fun q : Nat => s.heap.size ≤ q)) (hX : va_X b L xs s s.heap) (hbl : b < s.heap.size) (hi : ∀ k : Int32, k = 1 ∨ k = 2 ∨ k = 3 ∨ k = 4 ∨ k = 5 → vp_in (i + k) L) (G : GR u ts hs ns mm) (X : ST g (fun q : Nat => s.heap.size ≤ q) s H locs (wOut g o f ++ (wB g D R u ts bs ps hs ns ++ wM g a mm))) (hl : lv_has ls 9 [(0, .ref b), (1, .ref (D 0 0)), (2, .ref (a 0)), (3, .ref o), (4, .int i)]) (hfit : cells + 20 ≤ 601024 ∧ slots + 420 ≤ 7293034) (kk : ∀ (H : Heap) (locs : List Loc) (ls : Array Slot) (R : kAd) (u : ShS) (ts : TS) (bs : SS) (ps : PS) (hs : HS) (ns : NS) (mm : MS) (f : Nat → Int64), GR u ts hs ns mm → ST g (fun q : Nat => s.heap.size ≤ q) s H locs (wOut g o f ++ (wB g D R u ts bs ps hs ns ++ wM g a mm)) → lv_has ls 9 [(0, .ref b), (1, .ref (D 0 0)), (2, .ref (a 0)), (3, .ref o), (4, .int i)] → W p l e room_1 s m #[Value.ref b] below meth c H locs (cells + 20) (slots + 420) Q (F0 m 1731 ls [])) : W p l e room_1 s m #[Value.ref b] below meth c H locs cells slots Q (F0 m 1294 ls []) := by
  have hx := C.1
  have hb := C.2.1
  have hbA : ¬ (fun q : Nat => s.heap.size ≤ q) b := Nat.not_le.mpr hbl
  refine lv_aload_n hx hb dL_law_1294 rfl (lv_at hl 1 rfl) ?_
  refine lv_aload_n hx hb dL_law_1295 rfl (lv_at hl 0 rfl) ?_
  refine lv_iload hx hb dL_law_1296 (lv_at hl 4 rfl) ?_
  refine lv_iconst (v := 1) hx hb dL_law_1298 (by decide) ?_
  refine lv_iadd hx hb dL_law_1299 ?_
  refine va_sld hx hb hX hbl hbA X.2.2 (hi 1 (by decide)) dL_law_1300 ?_
  refine lv_aload_n hx hb dL_law_1301 rfl (lv_at hl 3 rfl) ?_
  obtain ⟨kv, f', w2, bb, m', e1, hK, e2, e3, e4⟩ := st_crossings l hl9 g D R u ts bs ps hs ns mm G (xs (i + 1).toNatClampNeg) o f
  refine keSW (wM g a mm) pm_l1 C X hK (cw_law_L_crossings C) (As := [.ref (D 0 0), .int (xs (i + 1).toNatClampNeg), .ref o]) rfl hl (rest := []) rfl (Nat.le_of_ble_eq_true rfl) (st2 := [.int kv]) rfl dL_law_1302 ⟨by have := hfit.1; show _ ≤ 601024; omega, by have := hfit.2; show _ ≤ 7293034; omega⟩ (w4 := fun t => wOut g o f' ++ (w2 t ++ wM g a mm)) (fun _ => pm_l2) (fun t H locs X => ?_)
  clear hK
  refine lv_istore (lv' := [(5, .int kv), (0, .ref b), (1, .ref (D 0 0)), (2, .ref (a 0)), (3, .ref o), (4, .int i)]) hx hb dL_law_1305 hl (by decide) rfl (fun ls hl => ?_)
  refine lv_aload_n hx hb dL_law_1307 rfl (lv_at hl 3 rfl) ?_
  refine lv_aload_n hx hb dL_law_1308 rfl (lv_at hl 1 rfl) ?_
  refine lv_iload hx hb dL_law_1309 (lv_at hl 5 rfl) ?_
  refine lv_iconst (v := 1) hx hb dL_law_1311 (by decide) ?_
  refine lv_iadd hx hb dL_law_1312 ?_
  refine va_sld hx hb hX hbl hbA X.2.2 (hi 1 (by decide)) dL_law_1313 ?_
  refine kVp (wOut g o f' ++ w2 t) pm_l3 C X (kX6_crossings l g a (xs (i + 1).toNatClampNeg) mm bb m' e1) (cw_law_X6_crossings C) 0 (ci := 6) rfl rfl (As := [.int (xs (i + 1).toNatClampNeg)]) rfl hl (rest := []) rfl (Nat.le_of_ble_eq_true rfl) (st2 := [.int bb]) rfl dL_law_1314 ⟨by have := hfit.1; show _ ≤ 601024; omega, by have := hfit.2; show _ ≤ 7293034; omega⟩ (w3 := wOut g o f' ++ (w2 t ++ wM g a m')) pm_l4 (fun H locs X => ?_)
  refine lv_istore (lv' := [(6, .int bb), (5, .int kv), (0, .ref b), (1, .ref (D 0 0)), (2, .ref (a 0)), (3, .ref o), (4, .int i)]) hx hb dL_law_1317 hl (by decide) rfl (fun ls hl => ?_)
  refine lv_aload_n hx hb dL_law_1319 rfl (lv_at hl 4 rfl) ?_
  refine kVp (wOut g o f' ++ w2 t) pm_l3 C X (kX6_thrown l g a m' kv (by rw [← e2]; rfl)) (cw_law_X6_thrown C) 0 (ci := 6) rfl rfl (As := []) rfl hl (rest := []) rfl (Nat.le_of_ble_eq_true rfl) (st2 := [.int kv]) rfl dL_law_1320 ⟨by have := hfit.1; show _ ≤ 601024; omega, by have := hfit.2; show _ ≤ 7293034; omega⟩ (w3 := wOut g o f' ++ (w2 t ++ wM g a m')) pm_l4 (fun H locs X => ?_)
  refine lv_iload hx hb dL_law_1323 (lv_at hl 1 rfl) ?_
  refine lv_icmp_eq (tgt := 1330) hx hb dL_law_1325 (by decide) (fun _ => ?_) (fun hc => absurd rfl hc)
  refine lv_iload hx hb dL_law_1330 (lv_at hl 1 rfl) ?_
  obtain ⟨R2, u2, ts2, bs2, ps2, hs2, ns2, hwe, G2⟩ := e4 t
  rw [hwe] at X
  have KF : ∀ (H : Heap) (locs : List Loc), ST g (fun q : Nat => s.heap.size ≤ q) s H locs (wOut g o f' ++ (wB g D R2 u2 ts2 bs2 ps2 hs2 ns2 ++ wM g a m')) → W p l e room_1 s m #[Value.ref b] below meth c H locs (cells + 1 + 0 + 0) (slots + 6 + 0 + 0) Q (F0 m 1347 ls []) := by
    intro H locs X
    refine lv_goto (tgt := 1731) hx hb dL_law_1347 (by decide) ?_
    refine W.widen (k := cells + 20) (n := slots + 420) (by omega) (by omega) ?_
    exact kk _ _ _ R2 u2 ts2 bs2 ps2 hs2 ns2 m' f' G2 X (lv_sub hl [2, 3, 4, 5, 6] rfl)
  refine lv_if_ne (tgt := 1347) hx hb dL_law_1332 (by decide) (fun _ => KF _ _ X) (fun hc => ?_)
  refine lv_aload_n hx hb dL_law_1335 rfl (lv_at hl 5 rfl) ?_
  refine lv_iconst (v := 0) hx hb dL_law_1336 (by decide) ?_
  refine klald C X 0 rfl (i := 0) (by decide) dL_law_1337 ?_
  refine lv_iload hx hb dL_law_1338 (lv_at hl 0 rfl) ?_
  refine lv_i2l (v := bb.toInt64) hx hb dL_law_1340 rfl ?_
  exact klcmp_eq (tgt := 1347) hx hb dL_law_1341 dL_law_1342 (by decide) (fun _ => KF _ _ X) (fun q => absurd (e3 hc) q)
theorem cw_law_L_count {p : Program} {s : State} {m : MethodId} {b : Nat} {meth : Method} {c : Code} {g : kG} (C : CT g p s m #[.ref b] meth c RL cL_law 9 (some .boolean) wsL_law (fun q : Nat => s.heap.size ≤ q)) : vx_CSW room_1 s #[.ref b] RL 161 yL_count cL_count 4 (some .int) [(0, 9, 12, 13)] wsL_count rL_count 1 6 3 := vx_cwSW 3 C.2.2.2.2.2.1 gL_law_L_count rfl rfl rfl (by decide +kernel) ⟨Nat.le_of_ble_eq_true rfl, Nat.le_of_ble_eq_true rfl⟩
theorem cw_law_X6_count {p : Program} {s : State} {m : MethodId} {b : Nat} {meth : Method} {c : Code} {g : kG} (C : CT g p s m #[.ref b] meth c RL cL_law 9 (some .boolean) wsL_law (fun q : Nat => s.heap.size ≤ q)) : CallW room_1 s #[.ref b] RL RX6 163 yX6_count cX6_count 2 (some .int) wsX6_count rX6_count 0 0 1 := cwV 1 C.2.2.2.2.2.1 gL_law_X6_count rfl rfl rfl (by decide +kernel) ⟨Nat.le_of_ble_eq_true rfl, Nat.le_of_ble_eq_true rfl⟩
set_option maxRecDepth 100000 in
set_option maxHeartbeats 4000000 in
theorem law_count (hl9 : l.stackTraces = false) (C : CT g p s m #[.ref b] meth c RL cL_law 9 (some .boolean) wsL_law (fun q : Nat => s.heap.size ≤ q)) (hX : va_X b L xs s s.heap) (hbl : b < s.heap.size) (hi : ∀ k : Int32, k = 1 ∨ k = 2 ∨ k = 3 ∨ k = 4 ∨ k = 5 → vp_in (i + k) L) (G : GR u ts hs ns mm) (X : ST g (fun q : Nat => s.heap.size ≤ q) s H locs (wOut g o f ++ (wB g D R u ts bs ps hs ns ++ wM g a mm))) (hl : lv_has ls 9 [(0, .ref b), (1, .ref (D 0 0)), (2, .ref (a 0)), (3, .ref o), (4, .int i)]) (hfit : cells + 20 ≤ 601024 ∧ slots + 420 ≤ 7293034) (kk : ∀ (H : Heap) (locs : List Loc) (ls : Array Slot) (R : kAd) (u : ShS) (ts : TS) (bs : SS) (ps : PS) (hs : HS) (ns : NS) (mm : MS) (f : Nat → Int64), GR u ts hs ns mm → ST g (fun q : Nat => s.heap.size ≤ q) s H locs (wOut g o f ++ (wB g D R u ts bs ps hs ns ++ wM g a mm)) → lv_has ls 9 [(0, .ref b), (1, .ref (D 0 0)), (2, .ref (a 0)), (3, .ref o), (4, .int i)] → W p l e room_1 s m #[Value.ref b] below meth c H locs (cells + 20) (slots + 420) Q (F0 m 1731 ls [])) : W p l e room_1 s m #[Value.ref b] below meth c H locs cells slots Q (F0 m 1350 ls []) := by
  have hx := C.1
  have hb := C.2.1
  have hbA : ¬ (fun q : Nat => s.heap.size ≤ q) b := Nat.not_le.mpr hbl
  refine lv_aload_n hx hb dL_law_1350 rfl (lv_at hl 1 rfl) ?_
  refine lv_aload_n hx hb dL_law_1351 rfl (lv_at hl 0 rfl) ?_
  refine lv_iload hx hb dL_law_1352 (lv_at hl 4 rfl) ?_
  refine lv_iconst (v := 1) hx hb dL_law_1354 (by decide) ?_
  refine lv_iadd hx hb dL_law_1355 ?_
  refine va_sld hx hb hX hbl hbA X.2.2 (hi 1 (by decide)) dL_law_1356 ?_
  refine lv_aload_n hx hb dL_law_1357 rfl (lv_at hl 3 rfl) ?_
  obtain ⟨kv, f', w2, bb, m', e1, hK, e2, e3, e4⟩ := st_count l hl9 g D R u ts bs ps hs ns mm G (xs (i + 1).toNatClampNeg) o f
  refine keSW (wM g a mm) pm_l1 C X hK (cw_law_L_count C) (As := [.ref (D 0 0), .int (xs (i + 1).toNatClampNeg), .ref o]) rfl hl (rest := []) rfl (Nat.le_of_ble_eq_true rfl) (st2 := [.int kv]) rfl dL_law_1358 ⟨by have := hfit.1; show _ ≤ 601024; omega, by have := hfit.2; show _ ≤ 7293034; omega⟩ (w4 := fun t => wOut g o f' ++ (w2 t ++ wM g a mm)) (fun _ => pm_l2) (fun t H locs X => ?_)
  clear hK
  refine lv_istore (lv' := [(5, .int kv), (0, .ref b), (1, .ref (D 0 0)), (2, .ref (a 0)), (3, .ref o), (4, .int i)]) hx hb dL_law_1361 hl (by decide) rfl (fun ls hl => ?_)
  refine lv_aload_n hx hb dL_law_1363 rfl (lv_at hl 3 rfl) ?_
  refine lv_aload_n hx hb dL_law_1364 rfl (lv_at hl 1 rfl) ?_
  refine lv_iload hx hb dL_law_1365 (lv_at hl 5 rfl) ?_
  refine lv_iconst (v := 1) hx hb dL_law_1367 (by decide) ?_
  refine lv_iadd hx hb dL_law_1368 ?_
  refine va_sld hx hb hX hbl hbA X.2.2 (hi 1 (by decide)) dL_law_1369 ?_
  refine kVp (wOut g o f' ++ w2 t) pm_l3 C X (kX6_count l g a (xs (i + 1).toNatClampNeg) mm bb m' e1) (cw_law_X6_count C) 0 (ci := 6) rfl rfl (As := [.int (xs (i + 1).toNatClampNeg)]) rfl hl (rest := []) rfl (Nat.le_of_ble_eq_true rfl) (st2 := [.int bb]) rfl dL_law_1370 ⟨by have := hfit.1; show _ ≤ 601024; omega, by have := hfit.2; show _ ≤ 7293034; omega⟩ (w3 := wOut g o f' ++ (w2 t ++ wM g a m')) pm_l4 (fun H locs X => ?_)
  refine lv_istore (lv' := [(6, .int bb), (5, .int kv), (0, .ref b), (1, .ref (D 0 0)), (2, .ref (a 0)), (3, .ref o), (4, .int i)]) hx hb dL_law_1373 hl (by decide) rfl (fun ls hl => ?_)
  refine lv_aload_n hx hb dL_law_1375 rfl (lv_at hl 4 rfl) ?_
  refine kVp (wOut g o f' ++ w2 t) pm_l3 C X (kX6_thrown l g a m' kv (by rw [← e2]; rfl)) (cw_law_X6_thrown C) 0 (ci := 6) rfl rfl (As := []) rfl hl (rest := []) rfl (Nat.le_of_ble_eq_true rfl) (st2 := [.int kv]) rfl dL_law_1376 ⟨by have := hfit.1; show _ ≤ 601024; omega, by have := hfit.2; show _ ≤ 7293034; omega⟩ (w3 := wOut g o f' ++ (w2 t ++ wM g a m')) pm_l4 (fun H locs X => ?_)
  refine lv_iload hx hb dL_law_1379 (lv_at hl 1 rfl) ?_
  refine lv_icmp_eq (tgt := 1386) hx hb dL_law_1381 (by decide) (fun _ => ?_) (fun hc => absurd rfl hc)
  refine lv_iload hx hb dL_law_1386 (lv_at hl 1 rfl) ?_
  obtain ⟨R2, u2, ts2, bs2, ps2, hs2, ns2, hwe, G2⟩ := e4 t
  rw [hwe] at X
  have KF : ∀ (H : Heap) (locs : List Loc), ST g (fun q : Nat => s.heap.size ≤ q) s H locs (wOut g o f' ++ (wB g D R2 u2 ts2 bs2 ps2 hs2 ns2 ++ wM g a m')) → W p l e room_1 s m #[Value.ref b] below meth c H locs (cells + 1 + 0 + 0) (slots + 6 + 0 + 0) Q (F0 m 1403 ls []) := by
    intro H locs X
    refine lv_goto (tgt := 1731) hx hb dL_law_1403 (by decide) ?_
    refine W.widen (k := cells + 20) (n := slots + 420) (by omega) (by omega) ?_
    exact kk _ _ _ R2 u2 ts2 bs2 ps2 hs2 ns2 m' f' G2 X (lv_sub hl [2, 3, 4, 5, 6] rfl)
  refine lv_if_ne (tgt := 1403) hx hb dL_law_1388 (by decide) (fun _ => KF _ _ X) (fun hc => ?_)
  refine lv_aload_n hx hb dL_law_1391 rfl (lv_at hl 5 rfl) ?_
  refine lv_iconst (v := 0) hx hb dL_law_1392 (by decide) ?_
  refine klald C X 0 rfl (i := 0) (by decide) dL_law_1393 ?_
  refine lv_iload hx hb dL_law_1394 (lv_at hl 0 rfl) ?_
  refine lv_i2l (v := bb.toInt64) hx hb dL_law_1396 rfl ?_
  exact klcmp_eq (tgt := 1403) hx hb dL_law_1397 dL_law_1398 (by decide) (fun _ => KF _ _ X) (fun q => absurd (e3 hc) q)
theorem cw_law_L_setting {p : Program} {s : State} {m : MethodId} {b : Nat} {meth : Method} {c : Code} {g : kG} (C : CT g p s m #[.ref b] meth c RL cL_law 9 (some .boolean) wsL_law (fun q : Nat => s.heap.size ≤ q)) : vx_CSW room_1 s #[.ref b] RL 164 yL_setting cL_setting 4 (some .int) [(0, 9, 12, 25)] wsL_setting rL_setting 1 6 3 := vx_cwSW 3 C.2.2.2.2.2.1 gL_law_L_setting rfl rfl rfl (by decide +kernel) ⟨Nat.le_of_ble_eq_true rfl, Nat.le_of_ble_eq_true rfl⟩
theorem cw_law_X6_setting {p : Program} {s : State} {m : MethodId} {b : Nat} {meth : Method} {c : Code} {g : kG} (C : CT g p s m #[.ref b] meth c RL cL_law 9 (some .boolean) wsL_law (fun q : Nat => s.heap.size ≤ q)) : CallW room_1 s #[.ref b] RL RX6 166 yX6_setting cX6_setting 2 (some .int) wsX6_setting rX6_setting 0 0 1 := cwV 1 C.2.2.2.2.2.1 gL_law_X6_setting rfl rfl rfl (by decide +kernel) ⟨Nat.le_of_ble_eq_true rfl, Nat.le_of_ble_eq_true rfl⟩
set_option maxRecDepth 100000 in
set_option maxHeartbeats 4000000 in
theorem law_setting (hl9 : l.stackTraces = false) (C : CT g p s m #[.ref b] meth c RL cL_law 9 (some .boolean) wsL_law (fun q : Nat => s.heap.size ≤ q)) (hX : va_X b L xs s s.heap) (hbl : b < s.heap.size) (hi : ∀ k : Int32, k = 1 ∨ k = 2 ∨ k = 3 ∨ k = 4 ∨ k = 5 → vp_in (i + k) L) (G : GR u ts hs ns mm) (X : ST g (fun q : Nat => s.heap.size ≤ q) s H locs (wOut g o f ++ (wB g D R u ts bs ps hs ns ++ wM g a mm))) (hl : lv_has ls 9 [(0, .ref b), (1, .ref (D 0 0)), (2, .ref (a 0)), (3, .ref o), (4, .int i)]) (hfit : cells + 20 ≤ 601024 ∧ slots + 420 ≤ 7293034) (kk : ∀ (H : Heap) (locs : List Loc) (ls : Array Slot) (R : kAd) (u : ShS) (ts : TS) (bs : SS) (ps : PS) (hs : HS) (ns : NS) (mm : MS) (f : Nat → Int64), GR u ts hs ns mm → ST g (fun q : Nat => s.heap.size ≤ q) s H locs (wOut g o f ++ (wB g D R u ts bs ps hs ns ++ wM g a mm)) → lv_has ls 9 [(0, .ref b), (1, .ref (D 0 0)), (2, .ref (a 0)), (3, .ref o), (4, .int i)] → W p l e room_1 s m #[Value.ref b] below meth c H locs (cells + 20) (slots + 420) Q (F0 m 1731 ls [])) : W p l e room_1 s m #[Value.ref b] below meth c H locs cells slots Q (F0 m 1406 ls []) := by
  have hx := C.1
  have hb := C.2.1
  have hbA : ¬ (fun q : Nat => s.heap.size ≤ q) b := Nat.not_le.mpr hbl
  refine lv_aload_n hx hb dL_law_1406 rfl (lv_at hl 1 rfl) ?_
  refine lv_aload_n hx hb dL_law_1407 rfl (lv_at hl 0 rfl) ?_
  refine lv_iload hx hb dL_law_1408 (lv_at hl 4 rfl) ?_
  refine lv_iconst (v := 1) hx hb dL_law_1410 (by decide) ?_
  refine lv_iadd hx hb dL_law_1411 ?_
  refine va_sld hx hb hX hbl hbA X.2.2 (hi 1 (by decide)) dL_law_1412 ?_
  refine lv_aload_n hx hb dL_law_1413 rfl (lv_at hl 3 rfl) ?_
  obtain ⟨kv, f', w2, bb, m', e1, hK, e2, e3, e4⟩ := st_setting l hl9 g D R u ts bs ps hs ns mm G (xs (i + 1).toNatClampNeg) o f
  refine keSW (wM g a mm) pm_l1 C X hK (cw_law_L_setting C) (As := [.ref (D 0 0), .int (xs (i + 1).toNatClampNeg), .ref o]) rfl hl (rest := []) rfl (Nat.le_of_ble_eq_true rfl) (st2 := [.int kv]) rfl dL_law_1414 ⟨by have := hfit.1; show _ ≤ 601024; omega, by have := hfit.2; show _ ≤ 7293034; omega⟩ (w4 := fun t => wOut g o f' ++ (w2 t ++ wM g a mm)) (fun _ => pm_l2) (fun t H locs X => ?_)
  clear hK
  refine lv_istore (lv' := [(5, .int kv), (0, .ref b), (1, .ref (D 0 0)), (2, .ref (a 0)), (3, .ref o), (4, .int i)]) hx hb dL_law_1417 hl (by decide) rfl (fun ls hl => ?_)
  refine lv_aload_n hx hb dL_law_1419 rfl (lv_at hl 3 rfl) ?_
  refine lv_aload_n hx hb dL_law_1420 rfl (lv_at hl 1 rfl) ?_
  refine lv_iload hx hb dL_law_1421 (lv_at hl 5 rfl) ?_
  refine lv_iconst (v := 1) hx hb dL_law_1423 (by decide) ?_
  refine lv_iadd hx hb dL_law_1424 ?_
  refine va_sld hx hb hX hbl hbA X.2.2 (hi 1 (by decide)) dL_law_1425 ?_
  refine kVp (wOut g o f' ++ w2 t) pm_l3 C X (kX6_setting l g a (xs (i + 1).toNatClampNeg) mm bb m' e1) (cw_law_X6_setting C) 0 (ci := 6) rfl rfl (As := [.int (xs (i + 1).toNatClampNeg)]) rfl hl (rest := []) rfl (Nat.le_of_ble_eq_true rfl) (st2 := [.int bb]) rfl dL_law_1426 ⟨by have := hfit.1; show _ ≤ 601024; omega, by have := hfit.2; show _ ≤ 7293034; omega⟩ (w3 := wOut g o f' ++ (w2 t ++ wM g a m')) pm_l4 (fun H locs X => ?_)
  refine lv_istore (lv' := [(6, .int bb), (5, .int kv), (0, .ref b), (1, .ref (D 0 0)), (2, .ref (a 0)), (3, .ref o), (4, .int i)]) hx hb dL_law_1429 hl (by decide) rfl (fun ls hl => ?_)
  refine lv_aload_n hx hb dL_law_1431 rfl (lv_at hl 4 rfl) ?_
  refine kVp (wOut g o f' ++ w2 t) pm_l3 C X (kX6_thrown l g a m' kv (by rw [← e2]; rfl)) (cw_law_X6_thrown C) 0 (ci := 6) rfl rfl (As := []) rfl hl (rest := []) rfl (Nat.le_of_ble_eq_true rfl) (st2 := [.int kv]) rfl dL_law_1432 ⟨by have := hfit.1; show _ ≤ 601024; omega, by have := hfit.2; show _ ≤ 7293034; omega⟩ (w3 := wOut g o f' ++ (w2 t ++ wM g a m')) pm_l4 (fun H locs X => ?_)
  refine lv_iload hx hb dL_law_1435 (lv_at hl 1 rfl) ?_
  refine lv_icmp_eq (tgt := 1442) hx hb dL_law_1437 (by decide) (fun _ => ?_) (fun hc => absurd rfl hc)
  refine lv_iload hx hb dL_law_1442 (lv_at hl 1 rfl) ?_
  obtain ⟨R2, u2, ts2, bs2, ps2, hs2, ns2, hwe, G2⟩ := e4 t
  rw [hwe] at X
  have KF : ∀ (H : Heap) (locs : List Loc), ST g (fun q : Nat => s.heap.size ≤ q) s H locs (wOut g o f' ++ (wB g D R2 u2 ts2 bs2 ps2 hs2 ns2 ++ wM g a m')) → W p l e room_1 s m #[Value.ref b] below meth c H locs (cells + 1 + 0 + 0) (slots + 6 + 0 + 0) Q (F0 m 1459 ls []) := by
    intro H locs X
    refine lv_goto (tgt := 1731) hx hb dL_law_1459 (by decide) ?_
    refine W.widen (k := cells + 20) (n := slots + 420) (by omega) (by omega) ?_
    exact kk _ _ _ R2 u2 ts2 bs2 ps2 hs2 ns2 m' f' G2 X (lv_sub hl [2, 3, 4, 5, 6] rfl)
  refine lv_if_ne (tgt := 1459) hx hb dL_law_1444 (by decide) (fun _ => KF _ _ X) (fun hc => ?_)
  refine lv_aload_n hx hb dL_law_1447 rfl (lv_at hl 5 rfl) ?_
  refine lv_iconst (v := 0) hx hb dL_law_1448 (by decide) ?_
  refine klald C X 0 rfl (i := 0) (by decide) dL_law_1449 ?_
  refine lv_iload hx hb dL_law_1450 (lv_at hl 0 rfl) ?_
  refine lv_i2l (v := bb.toInt64) hx hb dL_law_1452 rfl ?_
  exact klcmp_eq (tgt := 1459) hx hb dL_law_1453 dL_law_1454 (by decide) (fun _ => KF _ _ X) (fun q => absurd (e3 hc) q)
theorem cw_law_L_nearest {p : Program} {s : State} {m : MethodId} {b : Nat} {meth : Method} {c : Code} {g : kG} (C : CT g p s m #[.ref b] meth c RL cL_law 9 (some .boolean) wsL_law (fun q : Nat => s.heap.size ≤ q)) : vx_CSW room_1 s #[.ref b] RL 167 yL_nearest cL_nearest 5 (some .int) [(0, 10, 13, 13)] wsL_nearest rL_nearest 2 12 4 := vx_cwSW 4 C.2.2.2.2.2.1 gL_law_L_nearest rfl rfl rfl (by decide +kernel) ⟨Nat.le_of_ble_eq_true rfl, Nat.le_of_ble_eq_true rfl⟩
theorem cw_law_X6_nearest {p : Program} {s : State} {m : MethodId} {b : Nat} {meth : Method} {c : Code} {g : kG} (C : CT g p s m #[.ref b] meth c RL cL_law 9 (some .boolean) wsL_law (fun q : Nat => s.heap.size ≤ q)) : CallW room_1 s #[.ref b] RL RX6 169 yX6_nearest cX6_nearest 9 (some .int) wsX6_nearest rX6_nearest 0 0 2 := cwV 2 C.2.2.2.2.2.1 gL_law_X6_nearest rfl rfl rfl (by decide +kernel) ⟨Nat.le_of_ble_eq_true rfl, Nat.le_of_ble_eq_true rfl⟩
set_option maxRecDepth 100000 in
set_option maxHeartbeats 4000000 in
theorem law_nearest (hl9 : l.stackTraces = false) (C : CT g p s m #[.ref b] meth c RL cL_law 9 (some .boolean) wsL_law (fun q : Nat => s.heap.size ≤ q)) (hX : va_X b L xs s s.heap) (hbl : b < s.heap.size) (hi : ∀ k : Int32, k = 1 ∨ k = 2 ∨ k = 3 ∨ k = 4 ∨ k = 5 → vp_in (i + k) L) (G : GR u ts hs ns mm) (X : ST g (fun q : Nat => s.heap.size ≤ q) s H locs (wOut g o f ++ (wB g D R u ts bs ps hs ns ++ wM g a mm))) (hl : lv_has ls 9 [(0, .ref b), (1, .ref (D 0 0)), (2, .ref (a 0)), (3, .ref o), (4, .int i)]) (hfit : cells + 20 ≤ 601024 ∧ slots + 420 ≤ 7293034) (kk : ∀ (H : Heap) (locs : List Loc) (ls : Array Slot) (R : kAd) (u : ShS) (ts : TS) (bs : SS) (ps : PS) (hs : HS) (ns : NS) (mm : MS) (f : Nat → Int64), GR u ts hs ns mm → ST g (fun q : Nat => s.heap.size ≤ q) s H locs (wOut g o f ++ (wB g D R u ts bs ps hs ns ++ wM g a mm)) → lv_has ls 9 [(0, .ref b), (1, .ref (D 0 0)), (2, .ref (a 0)), (3, .ref o), (4, .int i)] → W p l e room_1 s m #[Value.ref b] below meth c H locs (cells + 20) (slots + 420) Q (F0 m 1731 ls [])) : W p l e room_1 s m #[Value.ref b] below meth c H locs cells slots Q (F0 m 1462 ls []) := by
  have hx := C.1
  have hb := C.2.1
  have hbA : ¬ (fun q : Nat => s.heap.size ≤ q) b := Nat.not_le.mpr hbl
  refine lv_aload_n hx hb dL_law_1462 rfl (lv_at hl 1 rfl) ?_
  refine lv_aload_n hx hb dL_law_1463 rfl (lv_at hl 0 rfl) ?_
  refine lv_iload hx hb dL_law_1464 (lv_at hl 4 rfl) ?_
  refine lv_iconst (v := 1) hx hb dL_law_1466 (by decide) ?_
  refine lv_iadd hx hb dL_law_1467 ?_
  refine va_sld hx hb hX hbl hbA X.2.2 (hi 1 (by decide)) dL_law_1468 ?_
  refine lv_aload_n hx hb dL_law_1469 rfl (lv_at hl 0 rfl) ?_
  refine lv_iload hx hb dL_law_1470 (lv_at hl 4 rfl) ?_
  refine lv_iconst (v := 2) hx hb dL_law_1472 (by decide) ?_
  refine lv_iadd hx hb dL_law_1473 ?_
  refine va_sld hx hb hX hbl hbA X.2.2 (hi 2 (by decide)) dL_law_1474 ?_
  refine lv_aload_n hx hb dL_law_1475 rfl (lv_at hl 3 rfl) ?_
  obtain ⟨kv, f', w2, bb, m', e1, hK, e2, e3, e4⟩ := st_nearest l hl9 g D R u ts bs ps hs ns mm G (xs (i + 1).toNatClampNeg) (xs (i + 2).toNatClampNeg) o f
  refine keSW (wM g a mm) pm_l1 C X hK (cw_law_L_nearest C) (As := [.ref (D 0 0), .int (xs (i + 1).toNatClampNeg), .int (xs (i + 2).toNatClampNeg), .ref o]) rfl hl (rest := []) rfl (Nat.le_of_ble_eq_true rfl) (st2 := [.int kv]) rfl dL_law_1476 ⟨by have := hfit.1; show _ ≤ 601024; omega, by have := hfit.2; show _ ≤ 7293034; omega⟩ (w4 := fun t => wOut g o f' ++ (w2 t ++ wM g a mm)) (fun _ => pm_l2) (fun t H locs X => ?_)
  clear hK
  refine lv_istore (lv' := [(5, .int kv), (0, .ref b), (1, .ref (D 0 0)), (2, .ref (a 0)), (3, .ref o), (4, .int i)]) hx hb dL_law_1479 hl (by decide) rfl (fun ls hl => ?_)
  refine lv_aload_n hx hb dL_law_1481 rfl (lv_at hl 3 rfl) ?_
  refine lv_aload_n hx hb dL_law_1482 rfl (lv_at hl 1 rfl) ?_
  refine lv_iload hx hb dL_law_1483 (lv_at hl 5 rfl) ?_
  refine lv_iconst (v := 1) hx hb dL_law_1485 (by decide) ?_
  refine lv_iadd hx hb dL_law_1486 ?_
  refine va_sld hx hb hX hbl hbA X.2.2 (hi 1 (by decide)) dL_law_1487 ?_
  refine lv_aload_n hx hb dL_law_1488 rfl (lv_at hl 1 rfl) ?_
  refine lv_iload hx hb dL_law_1489 (lv_at hl 5 rfl) ?_
  refine lv_iconst (v := 2) hx hb dL_law_1491 (by decide) ?_
  refine lv_iadd hx hb dL_law_1492 ?_
  refine va_sld hx hb hX hbl hbA X.2.2 (hi 2 (by decide)) dL_law_1493 ?_
  refine kVp (wOut g o f' ++ w2 t) pm_l3 C X (kX6_nearest l g a (xs (i + 1).toNatClampNeg) (xs (i + 2).toNatClampNeg) mm bb m' e1) (cw_law_X6_nearest C) 0 (ci := 6) rfl rfl (As := [.int (xs (i + 1).toNatClampNeg), .int (xs (i + 2).toNatClampNeg)]) rfl hl (rest := []) rfl (Nat.le_of_ble_eq_true rfl) (st2 := [.int bb]) rfl dL_law_1494 ⟨by have := hfit.1; show _ ≤ 601024; omega, by have := hfit.2; show _ ≤ 7293034; omega⟩ (w3 := wOut g o f' ++ (w2 t ++ wM g a m')) pm_l4 (fun H locs X => ?_)
  refine lv_istore (lv' := [(6, .int bb), (5, .int kv), (0, .ref b), (1, .ref (D 0 0)), (2, .ref (a 0)), (3, .ref o), (4, .int i)]) hx hb dL_law_1497 hl (by decide) rfl (fun ls hl => ?_)
  refine lv_aload_n hx hb dL_law_1499 rfl (lv_at hl 4 rfl) ?_
  refine kVp (wOut g o f' ++ w2 t) pm_l3 C X (kX6_thrown l g a m' kv (by rw [← e2]; rfl)) (cw_law_X6_thrown C) 0 (ci := 6) rfl rfl (As := []) rfl hl (rest := []) rfl (Nat.le_of_ble_eq_true rfl) (st2 := [.int kv]) rfl dL_law_1500 ⟨by have := hfit.1; show _ ≤ 601024; omega, by have := hfit.2; show _ ≤ 7293034; omega⟩ (w3 := wOut g o f' ++ (w2 t ++ wM g a m')) pm_l4 (fun H locs X => ?_)
  refine lv_iload hx hb dL_law_1503 (lv_at hl 1 rfl) ?_
  refine lv_icmp_eq (tgt := 1510) hx hb dL_law_1505 (by decide) (fun _ => ?_) (fun hc => absurd rfl hc)
  refine lv_iload hx hb dL_law_1510 (lv_at hl 1 rfl) ?_
  obtain ⟨R2, u2, ts2, bs2, ps2, hs2, ns2, hwe, G2⟩ := e4 t
  rw [hwe] at X
  have KF : ∀ (H : Heap) (locs : List Loc), ST g (fun q : Nat => s.heap.size ≤ q) s H locs (wOut g o f' ++ (wB g D R2 u2 ts2 bs2 ps2 hs2 ns2 ++ wM g a m')) → W p l e room_1 s m #[Value.ref b] below meth c H locs (cells + 2 + 0 + 0) (slots + 12 + 0 + 0) Q (F0 m 1527 ls []) := by
    intro H locs X
    refine lv_goto (tgt := 1731) hx hb dL_law_1527 (by decide) ?_
    refine W.widen (k := cells + 20) (n := slots + 420) (by omega) (by omega) ?_
    exact kk _ _ _ R2 u2 ts2 bs2 ps2 hs2 ns2 m' f' G2 X (lv_sub hl [2, 3, 4, 5, 6] rfl)
  refine lv_if_ne (tgt := 1527) hx hb dL_law_1512 (by decide) (fun _ => KF _ _ X) (fun hc => ?_)
  refine lv_aload_n hx hb dL_law_1515 rfl (lv_at hl 5 rfl) ?_
  refine lv_iconst (v := 0) hx hb dL_law_1516 (by decide) ?_
  refine klald C X 0 rfl (i := 0) (by decide) dL_law_1517 ?_
  refine lv_iload hx hb dL_law_1518 (lv_at hl 0 rfl) ?_
  refine lv_i2l (v := bb.toInt64) hx hb dL_law_1520 rfl ?_
  exact klcmp_eq (tgt := 1527) hx hb dL_law_1521 dL_law_1522 (by decide) (fun _ => KF _ _ X) (fun q => absurd (e3 hc) q)
theorem cw_law_L_ifSimplified {p : Program} {s : State} {m : MethodId} {b : Nat} {meth : Method} {c : Code} {g : kG} (C : CT g p s m #[.ref b] meth c RL cL_law 9 (some .boolean) wsL_law (fun q : Nat => s.heap.size ≤ q)) : vx_CSW room_1 s #[.ref b] RL 170 yL_ifSimplified cL_ifSimplified 6 (some .int) [(0, 12, 15, 25), (0, 12, 19, 13)] wsL_ifSimplified rL_ifSimplified 3 18 5 := vx_cwSW 5 C.2.2.2.2.2.1 gL_law_L_ifSimplified rfl rfl rfl (by decide +kernel) ⟨Nat.le_of_ble_eq_true rfl, Nat.le_of_ble_eq_true rfl⟩
theorem cw_law_X6_ifSimplified {p : Program} {s : State} {m : MethodId} {b : Nat} {meth : Method} {c : Code} {g : kG} (C : CT g p s m #[.ref b] meth c RL cL_law 9 (some .boolean) wsL_law (fun q : Nat => s.heap.size ≤ q)) : CallW room_1 s #[.ref b] RL RX6 172 yX6_ifSimplified cX6_ifSimplified 4 (some .int) wsX6_ifSimplified rX6_ifSimplified 0 0 3 := cwV 3 C.2.2.2.2.2.1 gL_law_X6_ifSimplified rfl rfl rfl (by decide +kernel) ⟨Nat.le_of_ble_eq_true rfl, Nat.le_of_ble_eq_true rfl⟩
set_option maxRecDepth 100000 in
set_option maxHeartbeats 4000000 in
theorem law_ifSimplified (hl9 : l.stackTraces = false) (C : CT g p s m #[.ref b] meth c RL cL_law 9 (some .boolean) wsL_law (fun q : Nat => s.heap.size ≤ q)) (hX : va_X b L xs s s.heap) (hbl : b < s.heap.size) (hi : ∀ k : Int32, k = 1 ∨ k = 2 ∨ k = 3 ∨ k = 4 ∨ k = 5 → vp_in (i + k) L) (G : GR u ts hs ns mm) (X : ST g (fun q : Nat => s.heap.size ≤ q) s H locs (wOut g o f ++ (wB g D R u ts bs ps hs ns ++ wM g a mm))) (hl : lv_has ls 9 [(0, .ref b), (1, .ref (D 0 0)), (2, .ref (a 0)), (3, .ref o), (4, .int i)]) (hfit : cells + 20 ≤ 601024 ∧ slots + 420 ≤ 7293034) (kk : ∀ (H : Heap) (locs : List Loc) (ls : Array Slot) (R : kAd) (u : ShS) (ts : TS) (bs : SS) (ps : PS) (hs : HS) (ns : NS) (mm : MS) (f : Nat → Int64), GR u ts hs ns mm → ST g (fun q : Nat => s.heap.size ≤ q) s H locs (wOut g o f ++ (wB g D R u ts bs ps hs ns ++ wM g a mm)) → lv_has ls 9 [(0, .ref b), (1, .ref (D 0 0)), (2, .ref (a 0)), (3, .ref o), (4, .int i)] → W p l e room_1 s m #[Value.ref b] below meth c H locs (cells + 20) (slots + 420) Q (F0 m 1731 ls [])) : W p l e room_1 s m #[Value.ref b] below meth c H locs cells slots Q (F0 m 1530 ls []) := by
  have hx := C.1
  have hb := C.2.1
  have hbA : ¬ (fun q : Nat => s.heap.size ≤ q) b := Nat.not_le.mpr hbl
  refine lv_aload_n hx hb dL_law_1530 rfl (lv_at hl 1 rfl) ?_
  refine lv_aload_n hx hb dL_law_1531 rfl (lv_at hl 0 rfl) ?_
  refine lv_iload hx hb dL_law_1532 (lv_at hl 4 rfl) ?_
  refine lv_iconst (v := 1) hx hb dL_law_1534 (by decide) ?_
  refine lv_iadd hx hb dL_law_1535 ?_
  refine va_sld hx hb hX hbl hbA X.2.2 (hi 1 (by decide)) dL_law_1536 ?_
  refine lv_aload_n hx hb dL_law_1537 rfl (lv_at hl 0 rfl) ?_
  refine lv_iload hx hb dL_law_1538 (lv_at hl 4 rfl) ?_
  refine lv_iconst (v := 2) hx hb dL_law_1540 (by decide) ?_
  refine lv_iadd hx hb dL_law_1541 ?_
  refine va_sld hx hb hX hbl hbA X.2.2 (hi 2 (by decide)) dL_law_1542 ?_
  refine lv_aload_n hx hb dL_law_1543 rfl (lv_at hl 0 rfl) ?_
  refine lv_iload hx hb dL_law_1544 (lv_at hl 4 rfl) ?_
  refine lv_iconst (v := 3) hx hb dL_law_1546 (by decide) ?_
  refine lv_iadd hx hb dL_law_1547 ?_
  refine va_sld hx hb hX hbl hbA X.2.2 (hi 3 (by decide)) dL_law_1548 ?_
  refine lv_aload_n hx hb dL_law_1549 rfl (lv_at hl 3 rfl) ?_
  obtain ⟨kv, f', w2, bb, m', e1, hK, e2, e3, e4⟩ := st_ifSimplified l hl9 g D R u ts bs ps hs ns mm G (xs (i + 1).toNatClampNeg) (xs (i + 2).toNatClampNeg) (xs (i + 3).toNatClampNeg) o f
  refine keSW (wM g a mm) pm_l1 C X hK (cw_law_L_ifSimplified C) (As := [.ref (D 0 0), .int (xs (i + 1).toNatClampNeg), .int (xs (i + 2).toNatClampNeg), .int (xs (i + 3).toNatClampNeg), .ref o]) rfl hl (rest := []) rfl (Nat.le_of_ble_eq_true rfl) (st2 := [.int kv]) rfl dL_law_1550 ⟨by have := hfit.1; show _ ≤ 601024; omega, by have := hfit.2; show _ ≤ 7293034; omega⟩ (w4 := fun t => wOut g o f' ++ (w2 t ++ wM g a mm)) (fun _ => pm_l2) (fun t H locs X => ?_)
  clear hK
  refine lv_istore (lv' := [(5, .int kv), (0, .ref b), (1, .ref (D 0 0)), (2, .ref (a 0)), (3, .ref o), (4, .int i)]) hx hb dL_law_1553 hl (by decide) rfl (fun ls hl => ?_)
  refine lv_aload_n hx hb dL_law_1555 rfl (lv_at hl 3 rfl) ?_
  refine lv_aload_n hx hb dL_law_1556 rfl (lv_at hl 1 rfl) ?_
  refine lv_iload hx hb dL_law_1557 (lv_at hl 5 rfl) ?_
  refine lv_iconst (v := 1) hx hb dL_law_1559 (by decide) ?_
  refine lv_iadd hx hb dL_law_1560 ?_
  refine va_sld hx hb hX hbl hbA X.2.2 (hi 1 (by decide)) dL_law_1561 ?_
  refine lv_aload_n hx hb dL_law_1562 rfl (lv_at hl 1 rfl) ?_
  refine lv_iload hx hb dL_law_1563 (lv_at hl 5 rfl) ?_
  refine lv_iconst (v := 2) hx hb dL_law_1565 (by decide) ?_
  refine lv_iadd hx hb dL_law_1566 ?_
  refine va_sld hx hb hX hbl hbA X.2.2 (hi 2 (by decide)) dL_law_1567 ?_
  refine lv_aload_n hx hb dL_law_1568 rfl (lv_at hl 1 rfl) ?_
  refine lv_iload hx hb dL_law_1569 (lv_at hl 5 rfl) ?_
  refine lv_iconst (v := 3) hx hb dL_law_1571 (by decide) ?_
  refine lv_iadd hx hb dL_law_1572 ?_
  refine va_sld hx hb hX hbl hbA X.2.2 (hi 3 (by decide)) dL_law_1573 ?_
  refine kVp (wOut g o f' ++ w2 t) pm_l3 C X (kX6_ifSimplified l g a (xs (i + 1).toNatClampNeg) (xs (i + 2).toNatClampNeg) (xs (i + 3).toNatClampNeg) mm bb m' e1) (cw_law_X6_ifSimplified C) 0 (ci := 6) rfl rfl (As := [.int (xs (i + 1).toNatClampNeg), .int (xs (i + 2).toNatClampNeg), .int (xs (i + 3).toNatClampNeg)]) rfl hl (rest := []) rfl (Nat.le_of_ble_eq_true rfl) (st2 := [.int bb]) rfl dL_law_1574 ⟨by have := hfit.1; show _ ≤ 601024; omega, by have := hfit.2; show _ ≤ 7293034; omega⟩ (w3 := wOut g o f' ++ (w2 t ++ wM g a m')) pm_l4 (fun H locs X => ?_)
  refine lv_istore (lv' := [(6, .int bb), (5, .int kv), (0, .ref b), (1, .ref (D 0 0)), (2, .ref (a 0)), (3, .ref o), (4, .int i)]) hx hb dL_law_1577 hl (by decide) rfl (fun ls hl => ?_)
  refine lv_aload_n hx hb dL_law_1579 rfl (lv_at hl 4 rfl) ?_
  refine kVp (wOut g o f' ++ w2 t) pm_l3 C X (kX6_thrown l g a m' kv (by rw [← e2]; rfl)) (cw_law_X6_thrown C) 0 (ci := 6) rfl rfl (As := []) rfl hl (rest := []) rfl (Nat.le_of_ble_eq_true rfl) (st2 := [.int kv]) rfl dL_law_1580 ⟨by have := hfit.1; show _ ≤ 601024; omega, by have := hfit.2; show _ ≤ 7293034; omega⟩ (w3 := wOut g o f' ++ (w2 t ++ wM g a m')) pm_l4 (fun H locs X => ?_)
  refine lv_iload hx hb dL_law_1583 (lv_at hl 1 rfl) ?_
  refine lv_icmp_eq (tgt := 1590) hx hb dL_law_1585 (by decide) (fun _ => ?_) (fun hc => absurd rfl hc)
  refine lv_iload hx hb dL_law_1590 (lv_at hl 1 rfl) ?_
  obtain ⟨R2, u2, ts2, bs2, ps2, hs2, ns2, hwe, G2⟩ := e4 t
  rw [hwe] at X
  have KF : ∀ (H : Heap) (locs : List Loc), ST g (fun q : Nat => s.heap.size ≤ q) s H locs (wOut g o f' ++ (wB g D R2 u2 ts2 bs2 ps2 hs2 ns2 ++ wM g a m')) → W p l e room_1 s m #[Value.ref b] below meth c H locs (cells + 3 + 0 + 0) (slots + 18 + 0 + 0) Q (F0 m 1607 ls []) := by
    intro H locs X
    refine lv_goto (tgt := 1731) hx hb dL_law_1607 (by decide) ?_
    refine W.widen (k := cells + 20) (n := slots + 420) (by omega) (by omega) ?_
    exact kk _ _ _ R2 u2 ts2 bs2 ps2 hs2 ns2 m' f' G2 X (lv_sub hl [2, 3, 4, 5, 6] rfl)
  refine lv_if_ne (tgt := 1607) hx hb dL_law_1592 (by decide) (fun _ => KF _ _ X) (fun hc => ?_)
  refine lv_aload_n hx hb dL_law_1595 rfl (lv_at hl 5 rfl) ?_
  refine lv_iconst (v := 0) hx hb dL_law_1596 (by decide) ?_
  refine klald C X 0 rfl (i := 0) (by decide) dL_law_1597 ?_
  refine lv_iload hx hb dL_law_1598 (lv_at hl 0 rfl) ?_
  refine lv_i2l (v := bb.toInt64) hx hb dL_law_1600 rfl ?_
  exact klcmp_eq (tgt := 1607) hx hb dL_law_1601 dL_law_1602 (by decide) (fun _ => KF _ _ X) (fun q => absurd (e3 hc) q)
theorem cw_law_L_leastBound {p : Program} {s : State} {m : MethodId} {b : Nat} {meth : Method} {c : Code} {g : kG} (C : CT g p s m #[.ref b] meth c RL cL_law 9 (some .boolean) wsL_law (fun q : Nat => s.heap.size ≤ q)) : vx_CSW room_1 s #[.ref b] RL 173 yL_leastBound cL_leastBound 6 (some .int) [(0, 12, 15, 25), (0, 12, 19, 13)] wsL_leastBound rL_leastBound 3 18 5 := vx_cwSW 5 C.2.2.2.2.2.1 gL_law_L_leastBound rfl rfl rfl (by decide +kernel) ⟨Nat.le_of_ble_eq_true rfl, Nat.le_of_ble_eq_true rfl⟩
theorem cw_law_X6_leastBound {p : Program} {s : State} {m : MethodId} {b : Nat} {meth : Method} {c : Code} {g : kG} (C : CT g p s m #[.ref b] meth c RL cL_law 9 (some .boolean) wsL_law (fun q : Nat => s.heap.size ≤ q)) : CallW room_1 s #[.ref b] RL RX6 175 yX6_leastBound cX6_leastBound 5 (some .int) wsX6_leastBound rX6_leastBound 0 0 3 := cwV 3 C.2.2.2.2.2.1 gL_law_X6_leastBound rfl rfl rfl (by decide +kernel) ⟨Nat.le_of_ble_eq_true rfl, Nat.le_of_ble_eq_true rfl⟩
set_option maxRecDepth 100000 in
set_option maxHeartbeats 4000000 in
theorem law_leastBound (hl9 : l.stackTraces = false) (C : CT g p s m #[.ref b] meth c RL cL_law 9 (some .boolean) wsL_law (fun q : Nat => s.heap.size ≤ q)) (hX : va_X b L xs s s.heap) (hbl : b < s.heap.size) (hi : ∀ k : Int32, k = 1 ∨ k = 2 ∨ k = 3 ∨ k = 4 ∨ k = 5 → vp_in (i + k) L) (G : GR u ts hs ns mm) (X : ST g (fun q : Nat => s.heap.size ≤ q) s H locs (wOut g o f ++ (wB g D R u ts bs ps hs ns ++ wM g a mm))) (hl : lv_has ls 9 [(0, .ref b), (1, .ref (D 0 0)), (2, .ref (a 0)), (3, .ref o), (4, .int i)]) (hfit : cells + 20 ≤ 601024 ∧ slots + 420 ≤ 7293034) (kk : ∀ (H : Heap) (locs : List Loc) (ls : Array Slot) (R : kAd) (u : ShS) (ts : TS) (bs : SS) (ps : PS) (hs : HS) (ns : NS) (mm : MS) (f : Nat → Int64), GR u ts hs ns mm → ST g (fun q : Nat => s.heap.size ≤ q) s H locs (wOut g o f ++ (wB g D R u ts bs ps hs ns ++ wM g a mm)) → lv_has ls 9 [(0, .ref b), (1, .ref (D 0 0)), (2, .ref (a 0)), (3, .ref o), (4, .int i)] → W p l e room_1 s m #[Value.ref b] below meth c H locs (cells + 20) (slots + 420) Q (F0 m 1731 ls [])) : W p l e room_1 s m #[Value.ref b] below meth c H locs cells slots Q (F0 m 1610 ls []) := by
  have hx := C.1
  have hb := C.2.1
  have hbA : ¬ (fun q : Nat => s.heap.size ≤ q) b := Nat.not_le.mpr hbl
  refine lv_aload_n hx hb dL_law_1610 rfl (lv_at hl 1 rfl) ?_
  refine lv_aload_n hx hb dL_law_1611 rfl (lv_at hl 0 rfl) ?_
  refine lv_iload hx hb dL_law_1612 (lv_at hl 4 rfl) ?_
  refine lv_iconst (v := 1) hx hb dL_law_1614 (by decide) ?_
  refine lv_iadd hx hb dL_law_1615 ?_
  refine va_sld hx hb hX hbl hbA X.2.2 (hi 1 (by decide)) dL_law_1616 ?_
  refine lv_aload_n hx hb dL_law_1617 rfl (lv_at hl 0 rfl) ?_
  refine lv_iload hx hb dL_law_1618 (lv_at hl 4 rfl) ?_
  refine lv_iconst (v := 2) hx hb dL_law_1620 (by decide) ?_
  refine lv_iadd hx hb dL_law_1621 ?_
  refine va_sld hx hb hX hbl hbA X.2.2 (hi 2 (by decide)) dL_law_1622 ?_
  refine lv_aload_n hx hb dL_law_1623 rfl (lv_at hl 0 rfl) ?_
  refine lv_iload hx hb dL_law_1624 (lv_at hl 4 rfl) ?_
  refine lv_iconst (v := 3) hx hb dL_law_1626 (by decide) ?_
  refine lv_iadd hx hb dL_law_1627 ?_
  refine va_sld hx hb hX hbl hbA X.2.2 (hi 3 (by decide)) dL_law_1628 ?_
  refine lv_aload_n hx hb dL_law_1629 rfl (lv_at hl 3 rfl) ?_
  obtain ⟨kv, f', w2, bb, m', e1, hK, e2, e3, e4⟩ := st_leastBound l hl9 g D R u ts bs ps hs ns mm G (xs (i + 1).toNatClampNeg) (xs (i + 2).toNatClampNeg) (xs (i + 3).toNatClampNeg) o f
  refine keSW (wM g a mm) pm_l1 C X hK (cw_law_L_leastBound C) (As := [.ref (D 0 0), .int (xs (i + 1).toNatClampNeg), .int (xs (i + 2).toNatClampNeg), .int (xs (i + 3).toNatClampNeg), .ref o]) rfl hl (rest := []) rfl (Nat.le_of_ble_eq_true rfl) (st2 := [.int kv]) rfl dL_law_1630 ⟨by have := hfit.1; show _ ≤ 601024; omega, by have := hfit.2; show _ ≤ 7293034; omega⟩ (w4 := fun t => wOut g o f' ++ (w2 t ++ wM g a mm)) (fun _ => pm_l2) (fun t H locs X => ?_)
  clear hK
  refine lv_istore (lv' := [(5, .int kv), (0, .ref b), (1, .ref (D 0 0)), (2, .ref (a 0)), (3, .ref o), (4, .int i)]) hx hb dL_law_1633 hl (by decide) rfl (fun ls hl => ?_)
  refine lv_aload_n hx hb dL_law_1635 rfl (lv_at hl 3 rfl) ?_
  refine lv_aload_n hx hb dL_law_1636 rfl (lv_at hl 1 rfl) ?_
  refine lv_iload hx hb dL_law_1637 (lv_at hl 5 rfl) ?_
  refine lv_iconst (v := 1) hx hb dL_law_1639 (by decide) ?_
  refine lv_iadd hx hb dL_law_1640 ?_
  refine va_sld hx hb hX hbl hbA X.2.2 (hi 1 (by decide)) dL_law_1641 ?_
  refine lv_aload_n hx hb dL_law_1642 rfl (lv_at hl 1 rfl) ?_
  refine lv_iload hx hb dL_law_1643 (lv_at hl 5 rfl) ?_
  refine lv_iconst (v := 2) hx hb dL_law_1645 (by decide) ?_
  refine lv_iadd hx hb dL_law_1646 ?_
  refine va_sld hx hb hX hbl hbA X.2.2 (hi 2 (by decide)) dL_law_1647 ?_
  refine lv_aload_n hx hb dL_law_1648 rfl (lv_at hl 1 rfl) ?_
  refine lv_iload hx hb dL_law_1649 (lv_at hl 5 rfl) ?_
  refine lv_iconst (v := 3) hx hb dL_law_1651 (by decide) ?_
  refine lv_iadd hx hb dL_law_1652 ?_
  refine va_sld hx hb hX hbl hbA X.2.2 (hi 3 (by decide)) dL_law_1653 ?_
  refine kVp (wOut g o f' ++ w2 t) pm_l3 C X (kX6_leastBound l g a (xs (i + 1).toNatClampNeg) (xs (i + 2).toNatClampNeg) (xs (i + 3).toNatClampNeg) mm bb m' e1) (cw_law_X6_leastBound C) 0 (ci := 6) rfl rfl (As := [.int (xs (i + 1).toNatClampNeg), .int (xs (i + 2).toNatClampNeg), .int (xs (i + 3).toNatClampNeg)]) rfl hl (rest := []) rfl (Nat.le_of_ble_eq_true rfl) (st2 := [.int bb]) rfl dL_law_1654 ⟨by have := hfit.1; show _ ≤ 601024; omega, by have := hfit.2; show _ ≤ 7293034; omega⟩ (w3 := wOut g o f' ++ (w2 t ++ wM g a m')) pm_l4 (fun H locs X => ?_)
  refine lv_istore (lv' := [(6, .int bb), (5, .int kv), (0, .ref b), (1, .ref (D 0 0)), (2, .ref (a 0)), (3, .ref o), (4, .int i)]) hx hb dL_law_1657 hl (by decide) rfl (fun ls hl => ?_)
  refine lv_aload_n hx hb dL_law_1659 rfl (lv_at hl 4 rfl) ?_
  refine kVp (wOut g o f' ++ w2 t) pm_l3 C X (kX6_thrown l g a m' kv (by rw [← e2]; rfl)) (cw_law_X6_thrown C) 0 (ci := 6) rfl rfl (As := []) rfl hl (rest := []) rfl (Nat.le_of_ble_eq_true rfl) (st2 := [.int kv]) rfl dL_law_1660 ⟨by have := hfit.1; show _ ≤ 601024; omega, by have := hfit.2; show _ ≤ 7293034; omega⟩ (w3 := wOut g o f' ++ (w2 t ++ wM g a m')) pm_l4 (fun H locs X => ?_)
  refine lv_iload hx hb dL_law_1663 (lv_at hl 1 rfl) ?_
  refine lv_icmp_eq (tgt := 1670) hx hb dL_law_1665 (by decide) (fun _ => ?_) (fun hc => absurd rfl hc)
  refine lv_iload hx hb dL_law_1670 (lv_at hl 1 rfl) ?_
  obtain ⟨R2, u2, ts2, bs2, ps2, hs2, ns2, hwe, G2⟩ := e4 t
  rw [hwe] at X
  have KF : ∀ (H : Heap) (locs : List Loc), ST g (fun q : Nat => s.heap.size ≤ q) s H locs (wOut g o f' ++ (wB g D R2 u2 ts2 bs2 ps2 hs2 ns2 ++ wM g a m')) → W p l e room_1 s m #[Value.ref b] below meth c H locs (cells + 3 + 0 + 0) (slots + 18 + 0 + 0) Q (F0 m 1687 ls []) := by
    intro H locs X
    refine lv_goto (tgt := 1731) hx hb dL_law_1687 (by decide) ?_
    refine W.widen (k := cells + 20) (n := slots + 420) (by omega) (by omega) ?_
    exact kk _ _ _ R2 u2 ts2 bs2 ps2 hs2 ns2 m' f' G2 X (lv_sub hl [2, 3, 4, 5, 6] rfl)
  refine lv_if_ne (tgt := 1687) hx hb dL_law_1672 (by decide) (fun _ => KF _ _ X) (fun hc => ?_)
  refine lv_aload_n hx hb dL_law_1675 rfl (lv_at hl 5 rfl) ?_
  refine lv_iconst (v := 0) hx hb dL_law_1676 (by decide) ?_
  refine klald C X 0 rfl (i := 0) (by decide) dL_law_1677 ?_
  refine lv_iload hx hb dL_law_1678 (lv_at hl 0 rfl) ?_
  refine lv_i2l (v := bb.toInt64) hx hb dL_law_1680 rfl ?_
  exact klcmp_eq (tgt := 1687) hx hb dL_law_1681 dL_law_1682 (by decide) (fun _ => KF _ _ X) (fun q => absurd (e3 hc) q)
theorem cw_law_X5_share {p : Program} {s : State} {m : MethodId} {b : Nat} {meth : Method} {c : Code} {g : kG} (C : CT g p s m #[.ref b] meth c RL cL_law 9 (some .boolean) wsL_law (fun q : Nat => s.heap.size ≤ q)) : CallW room_1 s #[.ref b] RL RX5 176 yX5_share cX5_share 3 (some .double) wsX5_share rX5_share 0 0 0 := cwV 0 C.2.2.2.2.2.1 gL_law_X5_share rfl rfl rfl (by decide +kernel) ⟨Nat.le_of_ble_eq_true rfl, Nat.le_of_ble_eq_true rfl⟩
theorem cw_law_X6_share {p : Program} {s : State} {m : MethodId} {b : Nat} {meth : Method} {c : Code} {g : kG} (C : CT g p s m #[.ref b] meth c RL cL_law 9 (some .boolean) wsL_law (fun q : Nat => s.heap.size ≤ q)) : CallW room_1 s #[.ref b] RL RX6 180 yX6_share cX6_share 1 (some .double) wsX6_share rX6_share 0 0 0 := cwV 0 C.2.2.2.2.2.1 gL_law_X6_share rfl rfl rfl (by decide +kernel) ⟨Nat.le_of_ble_eq_true rfl, Nat.le_of_ble_eq_true rfl⟩
set_option maxRecDepth 100000 in
set_option maxHeartbeats 4000000 in
theorem law_share (hl9 : l.stackTraces = false) (C : CT g p s m #[.ref b] meth c RL cL_law 9 (some .boolean) wsL_law (fun q : Nat => s.heap.size ≤ q)) (hX : va_X b L xs s s.heap) (hbl : b < s.heap.size) (hi : ∀ k : Int32, k = 1 ∨ k = 2 ∨ k = 3 ∨ k = 4 ∨ k = 5 → vp_in (i + k) L) (G : GR u ts hs ns mm) (X : ST g (fun q : Nat => s.heap.size ≤ q) s H locs (wOut g o f ++ (wB g D R u ts bs ps hs ns ++ wM g a mm))) (hl : lv_has ls 9 [(0, .ref b), (1, .ref (D 0 0)), (2, .ref (a 0)), (3, .ref o), (4, .int i)]) (hfit : cells + 20 ≤ 601024 ∧ slots + 420 ≤ 7293034) (kk : ∀ (H : Heap) (locs : List Loc) (ls : Array Slot) (R : kAd) (u : ShS) (ts : TS) (bs : SS) (ps : PS) (hs : HS) (ns : NS) (mm : MS) (f : Nat → Int64), GR u ts hs ns mm → ST g (fun q : Nat => s.heap.size ≤ q) s H locs (wOut g o f ++ (wB g D R u ts bs ps hs ns ++ wM g a mm)) → lv_has ls 9 [(0, .ref b), (1, .ref (D 0 0)), (2, .ref (a 0)), (3, .ref o), (4, .int i)] → W p l e room_1 s m #[Value.ref b] below meth c H locs (cells + 20) (slots + 420) Q (F0 m 1731 ls [])) : W p l e room_1 s m #[Value.ref b] below meth c H locs cells slots Q (F0 m 1690 ls []) := by
  have hx := C.1
  have hb := C.2.1
  obtain ⟨x, m', c1, c2, c3, c4⟩ := g_share G
  refine lv_aload_n hx hb dL_law_1690 rfl (lv_at hl 1 rfl) ?_
  refine kVp (wOut g o f ++ wM g a mm) pm_l5 C X (kX5_share l g D R u ts bs ps hs ns x c1) (cw_law_X5_share C) 0 (ci := 5) rfl rfl (As := []) rfl hl (rest := []) rfl (Nat.le_of_ble_eq_true rfl) (st2 := [.double x]) rfl dL_law_1691 ⟨by have := hfit.1; show _ ≤ 601024; omega, by have := hfit.2; show _ ≤ 7293034; omega⟩ (w3 := wOut g o f ++ (wB g D R u ts bs ps hs ns ++ wM g a mm)) pm_l6 (fun H locs X => ?_)
  refine lv_dstore (lv' := [(5, .double x), (0, .ref b), (1, .ref (D 0 0)), (2, .ref (a 0)), (3, .ref o), (4, .int i)]) hx hb dL_law_1694 hl (by decide) rfl (fun ls hl => ?_)
  refine lv_aload_n hx hb dL_law_1696 rfl (lv_at hl 3 rfl) ?_
  refine kVp (wOut g o f ++ wB g D R u ts bs ps hs ns) pm_l3 C X (kX6_share l g a mm x m' c2) (cw_law_X6_share C) 0 (ci := 6) rfl rfl (As := []) rfl hl (rest := []) rfl (Nat.le_of_ble_eq_true rfl) (st2 := [.double x]) rfl dL_law_1697 ⟨by have := hfit.1; show _ ≤ 601024; omega, by have := hfit.2; show _ ≤ 7293034; omega⟩ (w3 := wOut g o f ++ (wB g D R u ts bs ps hs ns ++ wM g a m')) pm_l4 (fun H locs X => ?_)
  refine lv_dstore (lv' := [(7, .double x), (5, .double x), (0, .ref b), (1, .ref (D 0 0)), (2, .ref (a 0)), (3, .ref o), (4, .int i)]) hx hb dL_law_1700 hl (by decide) rfl (fun ls hl => ?_)
  refine lv_dload hx hb dL_law_1702 (lv_at hl 1 rfl) ?_
  refine lv_dload hx hb dL_law_1704 (lv_at hl 0 rfl) ?_
  refine lv_dcmp hx hb dL_law_1706 ?_
  refine lv_if_eq (tgt := 1728) hx hb dL_law_1707 (by decide) (fun _ => ?_) (fun hc => absurd c4 hc)
  refine lv_goto (tgt := 1731) hx hb dL_law_1728 (by decide) ?_
  refine W.widen (k := cells + 20) (n := slots + 420) (by omega) (by omega) ?_
  exact kk _ _ _ R u ts bs ps hs ns m' f c3 X (lv_sub hl [2, 3, 4, 5, 6] rfl)
end LA
