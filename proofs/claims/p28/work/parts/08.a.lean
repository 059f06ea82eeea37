-- methods that return or throw, and make cells: the outcome is (code of the exception, worlds) or (answer, worlds); a world for each choice of new addresses
def kEx : Nat → String
  | 0 => "java/lang/IndexOutOfBoundsException"
  | 1 => "java/lang/IllegalArgumentException"
  | _ => "java/lang/IllegalStateException"
abbrev kOut (S : Type) : Type := (Nat × (S → va_W)) ⊕ (Option Value × (S → va_W))
def kXc {S : Type} (g : kG) (E : Nat) (w2 : S → va_W) (A : Nat → Prop) : String → State → State → Prop := fun E' st t => ∃ u : S, E' = kEx E ∧ va_P g.1 vwCl (w2 u) t.heap ∧ va_D A (w2 u) ∧ va_F A st t
def kQe {S : Type} (g : kG) (r : Option Value) (w2 : S → va_W) (A : Nat → Prop) : Array Value → State → Outcome → State → Prop := fun a st oc t => ∃ u : S, kQ g r (w2 u) A a st oc t
def kXQ {S : Type} (g : kG) (out : kOut S) (A : Nat → Prop) : Array Value → State → Outcome → State → Prop := Sum.elim (fun _ => fun _ _ _ _ => False) (fun o => kQe g o.1 o.2 A) out
def kXX {S : Type} (g : kG) (out : kOut S) (A : Nat → Prop) : String → State → State → Prop := Sum.elim (fun o => kXc g o.1 o.2 A) (fun _ => fun _ _ _ => False) out
def KX {S : Type} (l : Launch) (y : MethodName) (ws : List Cond) (rm : Room) (g : kG) (av : List Value) (wc : va_W) (out : kOut S) (mc ms : Nat) : Prop := ∀ sz : Nat, vx_Met l y ws rm (kPc g av sz wc) (kXQ g out (va_A wc sz)) (kXX g out (va_A wc sz)) mc ms (va_A wc sz)
abbrev kEndX {S : Type} (g : kG) (below : List Frame) (args : Array Value) (s : State) (out : kOut S) (A : Nat → Prop) (mc ms : Nat) : State → Prop := vx_MQ below (kXQ g out A) (kXX g out A) args s mc ms A
theorem KX.of {S : Type} {l : Launch} {y : MethodName} {ws ws' : List Cond} {rm : Room} {g : kG} {av : List Value} {wc : va_W} {out : kOut S} {mc ms nL : Nat} {cc : ByteArray} {ret : Option FieldType} (hy : plainName y.cls = true) (hw : ws = Cond.code y cc nL ret :: ws') (hlen : (lg_sl av).length ≤ nL)
    (body : ∀ (p : Program) (e : Env) (s : State) (m : MethodId) (args : Array Value) (below : List Frame) (meth : Method) (c : Code) (A : Nat → Prop) (ls : Array Slot), CT g p s m args meth c y.cls cc nL ret ws A → (∀ x ∈ c.exceptionTable.toList, False) → ST g A s s.heap [] wc → lv_has ls nL (lv_args 0 av) →
      W p l e rm s m args below meth c s.heap [] 0 0 (kEndX g below args s out A mc ms) (F0 m 0 ls [])) : KX l y ws rm g av wc out mc ms := by
  intro sz
  refine vx_ofW (cc := cc) (maxL := nL) (ret := ret) hy hw ?_
  intro p e s m args below meth c s₁ B hml ht hv
  obtain ⟨rfl, hsz, hP, hD0, hamb⟩ := hv
  subst hsz
  have hl := lv_entry av hlen
  rw [lg_entry_eq]
  exact body p e s m av.toArray below meth c (va_A wc s.heap.size) _ ⟨B.exec, B.bytes, B.returns, hml, findClass_of_methodNamed B.named, atoms_spec (ws := ws) B.pre, B.notSynchronized, hamb, fun q h => Or.inr h⟩ ht ⟨hP, hD0.self, va_S.rf⟩ hl
/-- a plain contract is one that never throws -/
theorem KM.x {l : Launch} {y : MethodName} {ws : List Cond} {rm : Room} {g : kG} {av : List Value} {wc w2 : va_W} {r : Option Value} {mc ms : Nat} (h : KM l y ws rm g av wc r w2 mc ms) : KX (S := Unit) l y ws rm g av wc (.inr (r, fun _ => w2)) mc ms := by
  intro sz p e ha hc hk s m args below hf hs hP hK
  obtain ⟨t, o, h1, h2, h3, h4⟩ := h sz p e ha hc hk s m args below hf hs hP hK
  exact ⟨t, o, h1, h2, h3, Or.inl ⟨⟨(), h4.1⟩, h4.2⟩⟩
section XR
variable {S : Type} {p : Program} {l : Launch} {e : Env} {R : Room} {s : State} {m : MethodId} {args : Array Value} {below : List Frame} {meth : Method} {c : Code} {H : Heap} {locs : List Loc} {cells slots : Nat} {Q : State → Prop}
variable {g : kG} {A : Nat → Prop} {own : String} {cc : ByteArray} {nL : Nat} {ret : Option FieldType} {Ts : List Cond} {pc : Nat} {ls : Array Slot} {rest : List Value} {ws : va_W}
theorem kxret {r : Option Value} {w2 : S → va_W} (u : S) {gf : JFrame} {mc ms : Nat} (hmc : cells ≤ mc) (hms : slots ≤ ms) (k : W p l e R s m args below meth c H locs mc ms (kEnd g below args s r (w2 u) A mc ms) gf) : W p l e R s m args below meth c H locs cells slots (kEndX g below args s (.inr (r, w2)) A mc ms) gf := by
  refine W.widen hmc hms ?_
  intro T hT X
  obtain ⟨t, a1, o, b1, b2, b3, b4⟩ := k T hT X
  exact ⟨t, a1, o, b1, b2, Or.inl ⟨⟨u, b3⟩, b4⟩⟩
/-- a thrown one goes on to the caller -/
theorem kxout {E : Nat} {w2 : S → va_W} (u : S) {q : Nat} {ce : Cell} {mc ms : Nat} (C : CT g p s m args meth c own cc nL ret Ts A) (htab : ∀ x ∈ c.exceptionTable.toList, False) (X : ST g A s H locs (w2 u)) (hce : H[q]? = some ce) (hv : ce.vm = .none) (hcl : s.vm.findClass (kEx E) = some ce.cls) (hmc : cells ≤ mc) (hms : slots ≤ ms) :
    vx_W p l e R s m args below meth c H locs cells slots (kEndX g below args s (.inl (E, w2)) A mc ms) (F0 m pc ls rest) q :=
  vx_out (fun x hx => (htab x hx).elim) C.2.2.2.2.2.2.1 hce hv hcl (fun t ht _ => ⟨u, rfl, by rw [ht]; exact X.1, X.2.1, X.2.2.F ht⟩) X.2.2.2.2 hmc hms
/-- 'throw new E("text")' -/
theorem kxthrow {E : Nat} {w2 : S → va_W} (u : S) {names : List String} {ik is ic mc ms : Nat} {text : String} (C : CT g p s m args meth c own cc nL ret Ts A) (htab : ∀ x ∈ c.exceptionTable.toList, False) (X : ST g A s H locs (w2 u)) (hl : l.stackTraces = false) {lv : List (Nat × Value)} (hls : lv_has ls nL lv) (hcls : Bundle.fit (kEx E) = true) (hnames : ∀ n ∈ names, Bundle.fit n = true) (hown : own = RX5) (hstr : (is, text) ∈ kStrL)
    (hck : (Cond.classLink own ik (kEx E)) ∈ Ts) (hini : (Cond.initialized (kEx E)) ∈ Ts) (hgw : ∀ w ∈ (vx_atS own ic (kEx E) names).filter goodWord, w ∈ Ts) (hng : ∀ w ∈ (vx_atS own ic (kEx E) names).filter (fun w => !goodWord w), w ∈ Cond.castable (kEx E) (kEx E) :: kDecl.map Cond.declares) (hkc : (kEx E, kEx E) ∈ kCasts) (hgood : ∀ w ∈ Cond.classLink own ik (kEx E) :: Cond.initialized (kEx E) :: vx_atS own ic (kEx E) names, vx_ot w = true)
    (d0 : decode cc pc = .ok (.new ik, 3)) (d3 : decode cc (pc + 3) = .ok (.dup, 1)) (d4 : decode cc (pc + 4) = .ok (.ldc is, 2)) (d6 : decode cc (pc + 6) = .ok (.invokespecial ic, 3)) (d9 : decode cc (pc + 9) = .ok (.athrow, 1))
    (hRframes : names.length + 3 < R.frames) (hRlocals : (rest.map fun v => v.category).sum + (13 * (names.length + 1) + 43) ≤ R.locals) (hRcells : cells + 1 ≤ R.cells) (hRslots : slots + 6 ≤ R.slots) (hmc : cells + 1 ≤ mc) (hms : slots + 6 ≤ ms) :
    W p l e R s m args below meth c H locs cells slots (kEndX g below args s (.inl (E, w2)) A mc ms) (F0 m pc ls rest) := by
  have hts := C.2.2.2.2.2.1
  obtain ⟨-, ⟨-, hcs, hds⟩, -, ⟨⟨ad, hR⟩, x1, x2⟩, -⟩ := C.2.2.2.2.2.2.2.1
  have hat : ∀ w ∈ vx_atS own ic (kEx E) names, w.before args s = true := vx_hat (fun w h => hts w (hgw w h)) hng (fun w h => by
    rcases List.mem_cons.mp h with h | h
    · rw [h]; exact va_Nw.use rfl (hcs _ hkc)
    · obtain ⟨y, hy, rfl⟩ := List.mem_map.mp h
      exact va_Nw.use rfl (hds y hy))
  have hs1 : vk_R own is text (ad is) s := by rw [hown]; exact hR (is, text) hstr
  exact vx_throwS C.1 C.2.1 hl C.2.2.2.2.1 hcls hnames (hts _ hck) (hts _ hini) hs1 hat hgood x1 x2 X.2.2 (hls.1.trans C.2.2.2.1.symm) d0 d3 d4 d6 d9 (fun x hx => (htab x hx).elim) hRframes hRlocals hRcells hRslots C.2.2.2.2.2.2.1
    (fun t _ hz hk => ⟨u, rfl, X.1.kept (fun k q hq => hk q.1 (X.1 k q hq).lt), X.2.1, ⟨Nat.le_trans X.2.2.1 hz, fun q h1 h2 => (hk q (Nat.lt_of_lt_of_le h1 X.2.2.1)).trans (X.2.2.2.1 q h1 h2)⟩⟩) X.2.2.2.2 hmc hms
theorem kxthrowW {E : Nat} {w2 : S → va_W} (u : S) {names : List String} {ik is ic mc ms : Nat} {text : String} (C : CT g p s m args meth c own cc nL ret Ts A) (htab : ∀ x ∈ c.exceptionTable.toList, False) (X : ST g A s H locs (w2 u)) (hl : l.stackTraces = false) {lv : List (Nat × Value)} (hls : lv_has ls nL lv) (hcls : Bundle.fit (kEx E) = true) (hnames : ∀ n ∈ names, Bundle.fit n = true) (hown : own = RX5) (hstr : (is, text) ∈ kStrL)
    (hck : (Cond.classLink own ik (kEx E)) ∈ Ts) (hini : (Cond.initialized (kEx E)) ∈ Ts) (hgw : ∀ w ∈ (vx_atS own ic (kEx E) names).filter goodWord, w ∈ Ts) (hng : ∀ w ∈ (vx_atS own ic (kEx E) names).filter (fun w => !goodWord w), w ∈ Cond.castable (kEx E) (kEx E) :: kDecl.map Cond.declares) (hkc : (kEx E, kEx E) ∈ kCasts) (hgood : ∀ w ∈ Cond.classLink own ik (kEx E) :: Cond.initialized (kEx E) :: vx_atS own ic (kEx E) names, vx_ot w = true)
    (d0 : decode cc pc = .ok (.new ik, 3)) (d3 : decode cc (pc + 3) = .ok (.dup, 1)) (d4 : decode cc (pc + 4) = .ok (.ldc_w is, 3)) (d7 : decode cc (pc + 7) = .ok (.invokespecial ic, 3)) (d10 : decode cc (pc + 10) = .ok (.athrow, 1))
    (hRframes : names.length + 3 < R.frames) (hRlocals : (rest.map fun v => v.category).sum + (13 * (names.length + 1) + 43) ≤ R.locals) (hRcells : cells + 1 ≤ R.cells) (hRslots : slots + 6 ≤ R.slots) (hmc : cells + 1 ≤ mc) (hms : slots + 6 ≤ ms) :
    W p l e R s m args below meth c H locs cells slots (kEndX g below args s (.inl (E, w2)) A mc ms) (F0 m pc ls rest) := by
  have hts := C.2.2.2.2.2.1
  obtain ⟨-, ⟨-, hcs, hds⟩, -, ⟨⟨ad, hR⟩, x1, x2⟩, -⟩ := C.2.2.2.2.2.2.2.1
  have hat : ∀ w ∈ vx_atS own ic (kEx E) names, w.before args s = true := vx_hat (fun w h => hts w (hgw w h)) hng (fun w h => by
    rcases List.mem_cons.mp h with h | h
    · rw [h]; exact va_Nw.use rfl (hcs _ hkc)
    · obtain ⟨y, hy, rfl⟩ := List.mem_map.mp h
      exact va_Nw.use rfl (hds y hy))
  have hs1 : vk_R own is text (ad is) s := by rw [hown]; exact hR (is, text) hstr
  exact vx_throwSW C.1 C.2.1 hl C.2.2.2.2.1 hcls hnames (hts _ hck) (hts _ hini) hs1 hat hgood x1 x2 X.2.2 (hls.1.trans C.2.2.2.1.symm) d0 d3 d4 d7 d10 (fun x hx => (htab x hx).elim) hRframes hRlocals hRcells hRslots C.2.2.2.2.2.2.1
    (fun t _ hz hk => ⟨u, rfl, X.1.kept (fun k q hq => hk q.1 (X.1 k q hq).lt), X.2.1, ⟨Nat.le_trans X.2.2.1 hz, fun q h1 h2 => (hk q (Nat.lt_of_lt_of_le h1 X.2.2.1)).trans (X.2.2.2.1 q h1 h2)⟩⟩) X.2.2.2.2 hmc hms
-- calls
variable {y : MethodName} {bytes : ByteArray} {maxL n index mc ms : Nat} {rt : Option FieldType} {wsY : List Cond} {rm : Room} {Cn : String} {b : Nat} {As st0 st2 : List Value} {wc : va_W} {lv : List (Nat × Value)}
/-- what a call gives: the caller's rest, and the callee's worlds -/
theorem kxcall {S2 : Type} {wr : va_W} {out : kOut S2} {av : Array Value} (hp : ws.Perm (wc ++ wr)) (C : CT g p s m args meth c own cc nL ret Ts A) (X : ST g A s H locs ws) (hr : vx_Run p l e R s m args below meth c H locs cells slots mc ms (F0 m pc ls st0) rest (kXQ g out (va_A wc H.size) av) (kXX g out (va_A wc H.size)) (va_A wc H.size))
    (kk : match out with
      | .inr (r, w2) => ∀ (u : S2) (H1 : Heap) (locs1 : List Loc), ST g A s H1 locs1 (wr ++ w2 u) → W p l e R s m args below meth c H1 locs1 (cells + mc) (slots + ms) Q (F0 m (pc + 3) ls (r.toList ++ rest))
      | .inl (E, w2) => ∀ (u : S2) (q : Nat) (ce : Cell) (H1 : Heap) (locs1 : List Loc), ST g A s H1 locs1 (wr ++ w2 u) → H1[q]? = some ce → ce.vm = .none → s.vm.findClass (kEx E) = some ce.cls → vx_W p l e R s m args below meth c H1 locs1 (cells + mc) (slots + ms) Q (F0 m pc ls rest) q) :
    W p l e R s m args below meth c H locs cells slots Q (F0 m pc ls st0) := by
  have Xp := X.perm hp
  have hC := k_appL wc wr
  have hR := k_appR wc wr
  have hdis : ∀ i ∈ (List.range wr.length).map (fun i => wc.length + i), i ∉ List.range wc.length := fun i hi hj => by
    obtain ⟨k, -, rfl⟩ := List.mem_map.mp hi
    rw [List.mem_range] at hj
    omega
  have hF := va_free Xp.2.1 Xp.2.2 C.2.2.2.2.2.2.2.2 (List.range wc.length) hC
  intro T hT Y
  rcases hr T hT Y with ⟨v, st₀, t, T', L, h0, Y', hL, e1, e2, hq, st⟩ | ⟨q, st₀, t, T', L, E, ce, h0, Y', hL, e1, e2, hq, hce, hcv, hcl, st⟩
  · cases out with
    | inl o => exact hq.elim
    | inr o =>
      obtain ⟨r, w2⟩ := o
      obtain ⟨u, ⟨hv, hp1, hd1⟩, hFr⟩ := hq
      cases hv
      obtain ⟨k1, k2, k3⟩ := vx_keep h0 e1 X.2.2 (fun q _ h => hF q h) hF hL hFr
      have X1 := kjoin (isR := (List.range wr.length).map (fun i => wc.length + i)) C Xp hC hR (k_nd_shift _ _) hdis (by rw [e1]; exact hp1) hd1 k2 k3
      obtain ⟨t2, a1, b1⟩ := kk u T'.heap (locs ++ L) X1 T' rfl Y'
      exact ⟨t2, st t2 a1, b1⟩
  · cases out with
    | inr o => exact hq.elim
    | inl o =>
      obtain ⟨E0, w2⟩ := o
      obtain ⟨u, rfl, hp1, hd1, hFr⟩ := hq
      obtain ⟨k1, k2, k3⟩ := vx_keep h0 e1 X.2.2 (fun q _ h => hF q h) hF hL hFr
      have X1 := kjoin (isR := (List.range wr.length).map (fun i => wc.length + i)) C Xp hC hR (k_nd_shift _ _) hdis (by rw [e1]; exact hp1) hd1 k2 k3
      obtain ⟨t2, a1, b1⟩ := kk u q ce T'.heap (locs ++ L) X1 (by rw [e1]; exact hce) hcv hcl T' rfl Y'
      exact ⟨t2, st.trans a1, b1⟩
theorem kxpreV {ci : Nat} {fs : List Value} {T : u_T} {N : Nat} {wr : va_W} (hp : ws.Perm (wc ++ wr)) (C : CT g p s m args meth c own cc nL ret Ts A) (X : ST g A s H locs ws) (q0 : Nat) (he : wc[q0]? = some (b, .inr (ci, fs))) (hc : vwCl[ci]? = some (Cn, T, N)) : PreV s H Cn b (kPc g (.ref b :: As) H.size wc) As :=
  ⟨kPc_blind, va_recv C.2.2.2.2.2.2.2.1.1 (X.perm hp).1 hc (by rw [List.getElem?_append_left (List.getElem?_eq_some_iff.mp he).1]; exact he), fun U hU hW => kpre C (X.perm hp) (k_appL wc wr) (k_nd_range _) U hU hW⟩
theorem kxpreS {wr : va_W} (hp : ws.Perm (wc ++ wr)) (C : CT g p s m args meth c own cc nL ret Ts A) (X : ST g A s H locs ws) : PreS s H (kPc g As H.size wc) As :=
  ⟨kPc_blind, fun U hU hW => kpre C (X.perm hp) (k_appL wc wr) (k_nd_range _) U hU hW⟩
/-- an instance call that returns -/
theorem kxV {S2 : Type} {ci : Nat} {fs : List Value} {T : u_T} {N : Nat} {r : Option Value} {w2 : S2 → va_W} (wr : va_W) (hp : ws.Perm (wc ++ wr)) (C : CT g p s m args meth c own cc nL ret Ts A) (X : ST g A s H locs ws) (hM : KX l y wsY rm g (.ref b :: As) wc (.inr (r, w2)) mc ms) (cw : CallW R s args own Cn index y bytes maxL rt wsY rm mc ms n) (q0 : Nat) (he : wc[q0]? = some (b, .inr (ci, fs))) (hc : vwCl[ci]? = some (Cn, T, N)) (hlen : As.length = n) (hl : lv_has ls nL lv) (hst : st0 = As.reverse ++ .ref b :: rest) (hroom : (rest.map fun v => v.category).sum ≤ 8) (hst2 : r.toList ++ rest = st2) (hdg : decode cc pc = .ok (.invokevirtual index, 3)) (hf : cells + mc ≤ R.cells ∧ slots + ms ≤ R.slots) {w3 : S2 → va_W} (hp2 : ∀ u, (wr ++ w2 u).Perm (w3 u))
    (kk : ∀ (u : S2) (H1 : Heap) (locs1 : List Loc), ST g A s H1 locs1 (w3 u) → W p l e R s m args below meth c H1 locs1 (cells + mc) (slots + ms) Q (F0 m (pc + 3) ls st2)) : W p l e R s m args below meth c H locs cells slots Q (F0 m pc ls st0) := by
  subst hst2
  exact kxcall (out := .inr (r, w2)) hp C X (vx_runV (g := F0 m pc ls st0) ⟨C.1, C.2.1, C.2.2.2.1, C.2.2.2.2.1, C.2.2.2.2.2.1⟩ (hM H.size) cw (kxpreV hp C X q0 he hc) rfl hlen hl.1 hst (lv_room (m := m) (pc := pc) (ls := ls) (rest := st0) hroom) hdg hf) (fun u H1 locs1 X1 => kk u H1 locs1 (X1.perm (hp2 u)))
/-- an instance call that throws: so does the caller -/
theorem kxVt {S2 : Type} {ci : Nat} {fs : List Value} {T : u_T} {N : Nat} {E : Nat} {w2 : S2 → va_W} (wr : va_W) (hp : ws.Perm (wc ++ wr)) (C : CT g p s m args meth c own cc nL ret Ts A) (htab : ∀ x ∈ c.exceptionTable.toList, False) (X : ST g A s H locs ws) (hM : KX l y wsY rm g (.ref b :: As) wc (.inl (E, w2)) mc ms) (cw : CallW R s args own Cn index y bytes maxL rt wsY rm mc ms n) (q0 : Nat) (he : wc[q0]? = some (b, .inr (ci, fs))) (hc : vwCl[ci]? = some (Cn, T, N)) (hlen : As.length = n) (hl : lv_has ls nL lv) (hst : st0 = As.reverse ++ .ref b :: rest) (hroom : (rest.map fun v => v.category).sum ≤ 8) (hdg : decode cc pc = .ok (.invokevirtual index, 3)) (hf : cells + mc ≤ R.cells ∧ slots + ms ≤ R.slots) {w3 : S → va_W} {k9 n9 : Nat} (hmc : cells + mc ≤ k9) (hms : slots + ms ≤ n9) (hp2 : ∀ u, ∃ v, (wr ++ w2 u).Perm (w3 v)) : W p l e R s m args below meth c H locs cells slots (kEndX g below args s (.inl (E, w3)) A k9 n9) (F0 m pc ls st0) :=
  kxcall (out := .inl (E, w2)) hp C X (vx_runV (g := F0 m pc ls st0) ⟨C.1, C.2.1, C.2.2.2.1, C.2.2.2.2.1, C.2.2.2.2.2.1⟩ (hM H.size) cw (kxpreV hp C X q0 he hc) rfl hlen hl.1 hst (lv_room (m := m) (pc := pc) (ls := ls) (rest := st0) hroom) hdg hf) (fun u q ce H1 locs1 X1 h1 h2 h3 => by
    obtain ⟨v, hv⟩ := hp2 u
    exact kxout v C htab (X1.perm hv) h1 h2 h3 hmc hms)
theorem kxS {S2 : Type} {r : Option Value} {w2 : S2 → va_W} (wr : va_W) (hp : ws.Perm (wc ++ wr)) (C : CT g p s m args meth c own cc nL ret Ts A) (X : ST g A s H locs ws) (hM : KX l y wsY rm g As wc (.inr (r, w2)) mc ms) (cw : CallB R s args own index y bytes maxL rt wsY rm mc ms n ∧ (Cond.static y).before args s = true) (hlen : As.length = n) (hl : lv_has ls nL lv) (hst : st0 = As.reverse ++ rest) (hroom : (rest.map fun v => v.category).sum ≤ 8) (hst2 : r.toList ++ rest = st2) (hdg : decode cc pc = .ok (.invokestatic index, 3)) (hf : cells + mc ≤ R.cells ∧ slots + ms ≤ R.slots) {w3 : S2 → va_W} (hp2 : ∀ u, (wr ++ w2 u).Perm (w3 u))
    (kk : ∀ (u : S2) (H1 : Heap) (locs1 : List Loc), ST g A s H1 locs1 (w3 u) → W p l e R s m args below meth c H1 locs1 (cells + mc) (slots + ms) Q (F0 m (pc + 3) ls st2)) : W p l e R s m args below meth c H locs cells slots Q (F0 m pc ls st0) := by
  subst hst2
  exact kxcall (out := .inr (r, w2)) hp C X (vx_runS (g := F0 m pc ls st0) ⟨C.1, C.2.1, C.2.2.2.1, C.2.2.2.2.1, C.2.2.2.2.2.1⟩ (hM H.size) cw (kxpreS hp C X) rfl hlen hl.1 hst (lv_room (m := m) (pc := pc) (ls := ls) (rest := st0) hroom) hdg hf) (fun u H1 locs1 X1 => kk u H1 locs1 (X1.perm (hp2 u)))
theorem kxSt {S2 : Type} {E : Nat} {w2 : S2 → va_W} (wr : va_W) (hp : ws.Perm (wc ++ wr)) (C : CT g p s m args meth c own cc nL ret Ts A) (htab : ∀ x ∈ c.exceptionTable.toList, False) (X : ST g A s H locs ws) (hM : KX l y wsY rm g As wc (.inl (E, w2)) mc ms) (cw : CallB R s args own index y bytes maxL rt wsY rm mc ms n ∧ (Cond.static y).before args s = true) (hlen : As.length = n) (hl : lv_has ls nL lv) (hst : st0 = As.reverse ++ rest) (hroom : (rest.map fun v => v.category).sum ≤ 8) (hdg : decode cc pc = .ok (.invokestatic index, 3)) (hf : cells + mc ≤ R.cells ∧ slots + ms ≤ R.slots) {w3 : S → va_W} {k9 n9 : Nat} (hmc : cells + mc ≤ k9) (hms : slots + ms ≤ n9) (hp2 : ∀ u, ∃ v, (wr ++ w2 u).Perm (w3 v)) : W p l e R s m args below meth c H locs cells slots (kEndX g below args s (.inl (E, w3)) A k9 n9) (F0 m pc ls st0) :=
  kxcall (out := .inl (E, w2)) hp C X (vx_runS (g := F0 m pc ls st0) ⟨C.1, C.2.1, C.2.2.2.1, C.2.2.2.2.1, C.2.2.2.2.2.1⟩ (hM H.size) cw (kxpreS hp C X) rfl hlen hl.1 hst (lv_room (m := m) (pc := pc) (ls := ls) (rest := st0) hroom) hdg hf) (fun u q ce H1 locs1 X1 h1 h2 h3 => by
    obtain ⟨v, hv⟩ := hp2 u
    exact kxout v C htab (X1.perm hv) h1 h2 h3 hmc hms)
end XR
