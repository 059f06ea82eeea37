-- the law's own methods: calls that are caught; contracts of bodies with handlers
theorem KE.ofH {S : Type} {l : Launch} {y : MethodName} {ws ws' : List Cond} {rm : Room} {g : kG} {av : List Value} {wc : va_W} {r : Option Value} {w2 : S → va_W} {mc ms nL : Nat} {cc : ByteArray} {ret : Option FieldType} {hh : List (Nat × Nat × Nat × Nat)} (hy : plainName y.cls = true) (hw : ws = Cond.codeWith y cc nL ret hh :: ws') (hlen : (lg_sl av).length ≤ nL)
    (body : ∀ (p : Program) (e : Env) (s : State) (m : MethodId) (args : Array Value) (below : List Frame) (meth : Method) (c : Code) (A : Nat → Prop) (ls : Array Slot), CT g p s m args meth c y.cls cc nL ret ws A → c.exceptionTable.toList = tableOf hh → ST g A s s.heap [] wc → lv_has ls nL (lv_args 0 av) →
      W p l e rm s m args below meth c s.heap [] 0 0 (kEndE g below args s r w2 A mc ms) (F0 m 0 ls [])) : KE l y ws rm g av wc r w2 mc ms := by
  intro sz
  refine MetFree.of_bodyS (code := cc) (maxLocals := nL) (ret := ret) hy ?_ ?_
  · intro args s m h hn
    obtain ⟨m9, meth, c, hn9, h1, h2, h3, h4, -, h5, h6, -⟩ := Cond.codeWith_spec (atoms_spec (ws := ws) h _ (by rw [hw]; exact List.mem_cons_self))
    cases hn.symm.trans hn9
    exact ⟨meth, c, h1, h2, h3, h4, h5, h6⟩
  · intro p e s m args below meth c s₁ B hml hP _
    have hh0 : s₁.heap = s.heap := by rw [B.state]; rfl
    have htab : c.exceptionTable.toList = tableOf hh := vx_table (x := y) B (atoms_spec (ws := ws) B.pre _ (by rw [hw]; exact List.mem_cons_self))
    obtain ⟨rfl, hsz, hP, hD0, hamb⟩ := hP
    subst hsz
    have hl := lv_entry av hlen
    have bd := body p e s m av.toArray below meth c (va_A wc s.heap.size) _ ⟨B.exec, B.bytes, B.returns, hml, findClass_of_methodNamed B.named, atoms_spec (ws := ws) B.pre, B.notSynchronized, hamb, fun q h => Or.inr h⟩ htab ⟨hP, hD0.self, va_S.rf⟩ hl
    rw [← lg_entry_eq] at bd
    obtain ⟨t, a1, o, b1, b2, b3⟩ := bd s₁ hh0 (Stand.of_body B)
    exact ⟨t, o, a1, b1, b2, ⟨b3.1, b3.2⟩⟩
abbrev wOut (g : kG) (o : Nat) (f : Nat → Int64) : va_W := [(o, .inl (kLo g, 1, .inr (.inl f)))]
section LW
variable {S : Type} {p : Program} {l : Launch} {e : Env} {R : Room} {s : State} {m : MethodId} {args : Array Value} {below : List Frame} {meth : Method} {c : Code} {H : Heap} {locs : List Loc} {cells slots : Nat} {Q : State → Prop}
variable {g : kG} {A : Nat → Prop} {own : String} {cc : ByteArray} {nL : Nat} {ret : Option FieldType} {Ts : List Cond} {pc : Nat} {ls : Array Slot} {rest : List Value} {ws w2 : va_W}
theorem keiret {v : Int32} {w2 : S → va_W} (u : S) (C : CT g p s m args meth c own cc nL (some .int) Ts A) (X : ST g A s H locs (w2 u)) (hdg : decode cc pc = .ok (.ireturn, 1)) : W p l e R s m args below meth c H locs cells slots (kEndE g below args s (some (.int v)) w2 A cells slots) (F0 m pc ls [.int v]) :=
  W.iret C.1 C.2.1 C.2.2.1 (fun t ht _ => ⟨u, ⟨rfl, by rw [ht]; exact X.1, X.2.1⟩, X.2.2.F ht⟩) X.2.2.2.2 hdg (hlocks := C.2.2.2.2.2.2.1)
theorem klast (C : CT g p s m args meth c own cc nL ret Ts A) (X : ST g A s H locs ws) (q0 : Nat) {a n : Nat} {f : Nat → Int64} (ha : ws[q0]? = some (a, .inl (kLo g, n, .inr (.inl f)))) {i : Int32} {x : Int64} (hin : inb i n = true) (hw : ws.set q0 (a, .inl (kLo g, n, .inr (.inl (vp_updL f i.toNatClampNeg x)))) = w2) (hdg : decode cc pc = .ok (.lastore, 1))
    (kk : ∀ (H1 : Heap) (locs1 : List Loc), ST g A s H1 locs1 w2 → W p l e R s m args below meth c H1 locs1 cells slots Q (F0 m (pc + 1) ls rest)) : W p l e R s m args below meth c H locs cells slots Q (F0 m pc ls (.long x :: .int i :: .ref a :: rest)) := by
  subst hw
  exact va_last C.1 C.2.1 C.2.2.2.2.2.2.2.1.1 X.1 X.2.1 X.2.2 q0 4 ha rfl (inb_in hin) hdg (fun H1 locs1 h1 h2 h3 => kk H1 locs1 ⟨h1, h2, h3⟩)
theorem klald (C : CT g p s m args meth c own cc nL ret Ts A) (X : ST g A s H locs ws) (q0 : Nat) {a n : Nat} {f : Nat → Int64} (ha : ws[q0]? = some (a, .inl (kLo g, n, .inr (.inl f)))) {i : Int32} (hin : inb i n = true) (hdg : decode cc pc = .ok (.laload, 1))
    (kk : W p l e R s m args below meth c H locs cells slots Q (F0 m (pc + 1) ls (.long (f i.toNatClampNeg) :: rest))) : W p l e R s m args below meth c H locs cells slots Q (F0 m pc ls (.int i :: .ref a :: rest)) :=
  va_lald C.1 C.2.1 C.2.2.2.2.2.2.2.1.1 X.1 q0 4 ha rfl (inb_in hin) hdg kk
variable {y : MethodName} {bytes : ByteArray} {maxL n index mc ms : Nat} {rt : Option FieldType} {wsY : List Cond} {rm : Room} {Cn : String} {b : Nat} {As st0 st2 : List Value} {wc : va_W} {lv : List (Nat × Value)}
/-- an instance call that throws, caught here -/
theorem kxVc {S2 : Type} {ci : Nat} {fs : List Value} {T : u_T} {N : Nat} {E : Nat} {w2 : S2 → va_W} (wr : va_W) (hp : ws.Perm (wc ++ wr)) (C : CT g p s m args meth c own cc nL ret Ts A) (X : ST g A s H locs ws) (hM : KX l y wsY rm g (.ref b :: As) wc (.inl (E, w2)) mc ms) (cw : CallW R s args own Cn index y bytes maxL rt wsY rm mc ms n) (q0 : Nat) (he : wc[q0]? = some (b, .inr (ci, fs))) (hc : vwCl[ci]? = some (Cn, T, N)) (hlen : As.length = n) (hl : lv_has ls nL lv) (hst : st0 = As.reverse ++ .ref b :: rest) (hroom : (rest.map fun v => v.category).sum ≤ 8) (hdg : decode cc pc = .ok (.invokevirtual index, 3)) (hf : cells + mc ≤ R.cells ∧ slots + ms ≤ R.slots)
    (pre : List ExceptionTableEntry) (x : ExceptionTableEntry) (suf : List ExceptionTableEntry) (hsplit : c.exceptionTable.toList = pre ++ x :: suf)
    (hpass : ∀ z ∈ pre, z.catchType ≠ 0 ∧ ∃ nm : String, (Cond.classLink own z.catchType nm) ∈ Ts ∧ (kEx E, nm) ∈ kNcs) (hx : covers x pc = true) (h0 : x.catchType ≠ 0) (hlink : (Cond.classLink own x.catchType (kEx E)) ∈ Ts) (hcast : (kEx E, kEx E) ∈ kCasts)
    (kk : ∀ (u : S2) (q : Nat) (H1 : Heap) (locs1 : List Loc), ST g A s H1 locs1 (wr ++ w2 u) → W p l e R s m args below meth c H1 locs1 (cells + mc) (slots + ms) Q (F0 m x.handlerPc ls [.ref q])) : W p l e R s m args below meth c H locs cells slots Q (F0 m pc ls st0) := by
  have hts := C.2.2.2.2.2.1
  obtain ⟨-, ⟨-, hcs, -⟩, -, -, -, -, -, -, hnc⟩ := C.2.2.2.2.2.2.2.1
  exact kxcall (out := .inl (E, w2)) hp C X (vx_runV (g := F0 m pc ls st0) ⟨C.1, C.2.1, C.2.2.2.1, C.2.2.2.2.1, C.2.2.2.2.2.1⟩ (hM H.size) cw (kxpreV hp C X q0 he hc) rfl hlen hl.1 hst (lv_room (m := m) (pc := pc) (ls := ls) (rest := st0) hroom) hdg hf) (fun u q ce H1 locs1 X1 h1 h2 h3 =>
    vx_catch C.2.2.2.2.1 pre x suf hsplit (fun z hz => by
      obtain ⟨a1, nm, a2, a3⟩ := hpass z hz
      exact Or.inr ⟨a1, nm, hts _ a2, hnc _ a3⟩) hx h0 (hts _ hlink) (va_Nw.use rfl (hcs _ hcast)) h1 h2 h3 (kk u q H1 locs1 X1))
/-- a static call of a method with handlers -/
theorem keSW {w2 w4 : S → va_W} {r : Option Value} {hh : List (Nat × Nat × Nat × Nat)} (wr : va_W) (hp : ws.Perm (wc ++ wr)) (C : CT g p s m args meth c own cc nL ret Ts A) (X : ST g A s H locs ws) (hM : KE l y wsY rm g As wc r w2 mc ms) (cw : vx_CSW R s args own index y bytes maxL rt hh wsY rm mc ms n) (hlen : As.length = n) (hl : lv_has ls nL lv) (hst : st0 = As.reverse ++ rest) (hroom : (rest.map fun v => v.category).sum ≤ 8) (hst2 : r.toList ++ rest = st2) (hdg : decode cc pc = .ok (.invokestatic index, 3)) (hf : cells + mc ≤ R.cells ∧ slots + ms ≤ R.slots) (hp2 : ∀ u, (wr ++ w2 u).Perm (w4 u))
    (kk : ∀ (u : S) (H1 : Heap) (locs1 : List Loc), ST g A s H1 locs1 (w4 u) → W p l e R s m args below meth c H1 locs1 (cells + mc) (slots + ms) Q (F0 m (pc + 3) ls st2)) : W p l e R s m args below meth c H locs cells slots Q (F0 m pc ls st0) := by
  subst hst2
  have Xp := X.perm hp
  have hC := k_appL wc wr
  have hdis : ∀ i ∈ (List.range wr.length).map (fun i => wc.length + i), i ∉ List.range wc.length := fun i hi hj => by
    obtain ⟨k, -, rfl⟩ := List.mem_map.mp hi
    rw [List.mem_range] at hj
    omega
  have hF := va_free Xp.2.1 Xp.2.2 C.2.2.2.2.2.2.2.2 (List.range wc.length) hC
  refine kcallE (vx_runSW (g := F0 m pc ls st0) ⟨C.1, C.2.1, C.2.2.2.1, C.2.2.2.2.1, C.2.2.2.2.2.1⟩ (hM H.size) cw (kxpreS hp C X) rfl hlen hl.1 hst (lv_room (m := m) (pc := pc) (ls := ls) (rest := st0) hroom) hdg hf) X.2.2 (fun q _ h => hF q h) hF (fun u H1 locs1 hP1 hD1 hz hk hS => kk u H1 locs1 ((kjoin (isR := (List.range wr.length).map (fun i => wc.length + i)) C Xp hC (k_appR wc wr) (k_nd_shift _ _) hdis hP1 hD1 hk hS).perm (hp2 u)))
end LW
-- the reference's share
abbrev rX6_share : Room := { frames := 3, cells := 0, slots := 0, locals := 90 }
noncomputable def fX6_share (u : MS) : Option (UInt64 × MS) := lt (M_s_thrown u 0) fun u1 => gd (inb 296 303) (if (M_z u1 (296 : Int32).toNatClampNeg) = 0 then some (FP.dconst1, u1) else (fX6_allKept u1).bind fun k => (fX6_allPoints u1).bind fun n => gd (nn64 (FP.ddiv (FP.i2d k) (FP.i2d n))) (some (FP.ddiv (FP.i2d k) (FP.i2d n), u1)))
theorem in_X6_share : ∀ w ∈ u_ws RX6 TX6 16, w ∈ wsX6_share := by decide +kernel
theorem fl_X6_share : (Cond.fieldLink RX6 35 "BrushStrokesModel" "thrown" "I") ∈ wsX6_share ∧ (Cond.fieldLink RX6 7 "BrushStrokesModel" "z" "[I") ∈ wsX6_share := by decide +kernel
theorem cw_X6_share_X6_allKept_225 {p : Program} {s : State} {m : MethodId} {args : Array Value} {meth : Method} {c : Code} {g : kG} {A : Nat → Prop} (C : CT g p s m args meth c RX6 cX6_share 1 (some .double) wsX6_share A) : CallW rX6_share s args RX6 RX6 225 yX6_allKept cX6_allKept 3 (some .int) wsX6_allKept rX6_allKept 0 0 0 := cwV 0 C.2.2.2.2.2.1 gX6_share_X6_allKept rfl rfl rfl (by decide +kernel) ⟨Nat.le_of_ble_eq_true rfl, Nat.le_of_ble_eq_true rfl⟩
theorem cw_X6_share_X6_allPoints_222 {p : Program} {s : State} {m : MethodId} {args : Array Value} {meth : Method} {c : Code} {g : kG} {A : Nat → Prop} (C : CT g p s m args meth c RX6 cX6_share 1 (some .double) wsX6_share A) : CallW rX6_share s args RX6 RX6 222 yX6_allPoints cX6_allPoints 3 (some .int) wsX6_allPoints rX6_allPoints 0 0 0 := cwV 0 C.2.2.2.2.2.1 gX6_share_X6_allPoints rfl rfl rfl (by decide +kernel) ⟨Nat.le_of_ble_eq_true rfl, Nat.le_of_ble_eq_true rfl⟩
set_option maxRecDepth 100000 in
set_option maxHeartbeats 4000000 in
theorem kX6_share (l : Launch) (g : kG) (a : Nat → Nat) (u : MS) (o1 : UInt64) (o2 : MS) (hm : fX6_share u = some (o1, o2)) : KM l yX6_share wsX6_share rX6_share g [.ref (a 0)] (wM g a u) (some (.double o1)) (wM g a o2) 0 0 := by
  refine KM.of (nL := 1) (by decide) rfl (Nat.le_of_ble_eq_true rfl) ?_
  intro p e s m args below meth c A ls C X hl
  have C : CT g p s m args meth c RX6 cX6_share 1 (some .double) wsX6_share A := C
  have hx := C.1
  have hb := C.2.1
  have hl : lv_has ls 1 [(0, .ref (a 0))] := hl
  have hinX6 := in_X6_share
  have hf35 := C.2.2.2.2.2.1 _ fl_X6_share.1
  have hf7 := C.2.2.2.2.2.1 _ fl_X6_share.2
  rw [fX6_share] at hm
  refine lv_aload_n hx hb dX6_share_0 rfl (lv_at hl 0 rfl) ?_
  refine lv_iconst (v := 0) hx hb dX6_share_1 (by decide) ?_
  obtain ⟨u1, eu⟩ : ∃ z, z = M_s_thrown u 0 := ⟨_, rfl⟩
  have hm := lt_t eu hm
  refine kput C X 0 (ci := 6) rfl rfl hinX6 tyX6_ok nmX6 0 (by decide) hf35 rfl (ty := .int) (v := .int 0) rfl rfl rfl (Nat.le_of_ble_eq_true rfl) (w2 := wM g a u1) (by subst eu; rfl) dX6_share_2 (fun H locs X => ?_)
  clear eu
  refine lv_aload_n hx hb dX6_share_5 rfl (lv_at hl 0 rfl) ?_
  refine kget C X 0 (ci := 6) rfl rfl hinX6 1 (by decide) hf7 (v := .ref (a 1)) rfl dX6_share_6 ?_
  refine lv_sipush (v := 296) hx hb dX6_share_9 (by decide) ?_
  obtain ⟨hgi, hm⟩ := gd_t hm
  refine kiald C X 1 rfl hgi dX6_share_12 ?_
  refine lv_if_ne (tgt := 20) hx hb dX6_share_13 (by decide) (fun hc => ?_) (fun hc => ?_)
  · have hm := ifn hc hm
    refine lv_aload_n hx hb dX6_share_20 rfl (lv_at hl 0 rfl) ?_
    obtain ⟨k, hcl, hm⟩ := bnd hm
    obtain ⟨n, hcl2, hm⟩ := bnd hm
    obtain ⟨hgk, hm⟩ := gd_t hm
    refine kVW C X (kX6_allKept l g a u1 k hcl) (cw_X6_share_X6_allKept_225 C) 0 (ci := 6) rfl rfl (As := []) rfl hl (rest := []) rfl (Nat.le_of_ble_eq_true rfl) (st2 := [.int k]) rfl dX6_share_21 ⟨(Nat.le_of_ble_eq_true rfl), (Nat.le_of_ble_eq_true rfl)⟩ (fun H locs X => ?_)
    refine lv_i2d hx hb dX6_share_24 ?_
    refine lv_aload_n hx hb dX6_share_25 rfl (lv_at hl 0 rfl) ?_
    refine kVW C X (kX6_allPoints l g a u1 n hcl2) (cw_X6_share_X6_allPoints_222 C) 0 (ci := 6) rfl rfl (As := []) rfl hl (rest := [.double (FP.i2d k)]) rfl (Nat.le_of_ble_eq_true rfl) (st2 := [.int n, .double (FP.i2d k)]) rfl dX6_share_26 ⟨(Nat.le_of_ble_eq_true rfl), (Nat.le_of_ble_eq_true rfl)⟩ (fun H locs X => ?_)
    refine lv_i2d hx hb dX6_share_29 ?_
    refine lv_ddiv hx hb dX6_share_30 (nn64_t hgk) ?_
    obtain ⟨rfl, rfl⟩ := Prod.mk.inj (sm hm)
    exact kdret C X dX6_share_31
  · obtain ⟨rfl, rfl⟩ := Prod.mk.inj (sm (ifp hc hm))
    refine lv_dconst1 hx hb dX6_share_16 ?_
    refine lv_goto (tgt := 31) hx hb dX6_share_17 (by decide) ?_
    exact kdret C X dX6_share_31
