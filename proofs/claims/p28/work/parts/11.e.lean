-- the law's own methods: calls that are caught; contracts of bodies with handlers
theorem KE.ofH {S : Type} {l : Launch} {y : MethodName} {ws ws' : List Cond} {rm : Room} {g : kG} {av : List Value} {wc : va_W} {r : Option Value} {w2 : S → va_W} {mc ms nL : Nat} {cc : ByteArray} {ret : Option FieldType} {hh : List (Nat × Nat × Nat × Nat)} (hy : plainName y.cls = true) (hw : ws = Cond.codeWith y cc nL ret hh :: ws') (hlen : (lg_sl av).length ≤ nL)
    (body : ∀ (p : Program) (e : Env) (s : State) (m : MethodId) (args : Array Value) (below : List Frame) (meth : Method) (c : Code) (A : Nat → Prop) (ls : Array Slot), CT g p s m args meth c y.cls cc nL ret ws A → c.exceptionTable.toList = tableOf hh → ST g A s s.heap [] wc → lv_has ls nL (lv_args 0 av) →
      W p l e rm s m args below meth c s.heap [] 0 0 (kEndE g below args s r w2 A mc ms) (F0 m 0 ls [])) : KE l y ws rm g av wc r w2 mc ms := by
  intro sz
  refine MetFree.of_bodyS (code := cc) (maxLocals := nL) (ret := ret) hy ?_ ?_
  · intro args s m h hn
    obtain ⟨m9, meth, c, hn9, h1, h2, h3, h4, -, h5, h6, -⟩ := Cond.codeWith_spec (atoms_spec (ws := ws) h _ (by rw [hw]; exact List.mem_cons_self))
    cases hn.symm.trans hn9
    exact ⟨meth, c, h1, h2, h3, h4, h5, h6⟩
  · intro p e s m args below meth c s₁ B hml hP _
    have hh0 : s₁.heap = s.heap := by rw [B.state]; rfl
    have htab : c.exceptionTable.toList = tableOf hh := vx_table (x := y) B (atoms_spec (ws := ws) B.pre _ (by rw [hw]; exact List.mem_cons_self))
    obtain ⟨rfl, hsz, hP, hD0, hamb⟩ := hP
    subst hsz
    have hl := lv_entry av hlen
    have bd := body p e s m av.toArray below meth c (va_A wc s.heap.size) _ ⟨B.exec, B.bytes, B.returns, hml, findClass_of_methodNamed B.named, atoms_spec (ws := ws) B.pre, B.notSynchronized, hamb, fun q h => Or.inr h⟩ htab ⟨hP, hD0.self, va_S.rf⟩ hl
    rw [← lg_entry_eq] at bd
    obtain ⟨t, a1, o, b1, b2, b3⟩ := bd s₁ hh0 (Stand.of_body B)
    exact ⟨t, o, a1, b1, b2, ⟨b3.1, b3.2⟩⟩
section LW
variable {S : Type} {p : Program} {l : Launch} {e : Env} {R : Room} {s : State} {m : MethodId} {args : Array Value} {below : List Frame} {meth : Method} {c : Code} {H : Heap} {locs : List Loc} {cells slots : Nat} {Q : State → Prop}
variable {g : kG} {A : Nat → Prop} {own : String} {cc : ByteArray} {nL : Nat} {ret : Option FieldType} {Ts : List Cond} {pc : Nat} {ls : Array Slot} {rest : List Value} {ws w2 : va_W}
theorem keiret {v : Int32} {w2 : S → va_W} (u : S) (C : CT g p s m args meth c own cc nL (some .int) Ts A) (X : ST g A s H locs (w2 u)) (hdg : decode cc pc = .ok (.ireturn, 1)) : W p l e R s m args below meth c H locs cells slots (kEndE g below args s (some (.int v)) w2 A cells slots) (F0 m pc ls [.int v]) :=
  W.iret C.1 C.2.1 C.2.2.1 (fun t ht _ => ⟨u, ⟨rfl, by rw [ht]; exact X.1, X.2.1⟩, X.2.2.F ht⟩) X.2.2.2.2 hdg (hlocks := C.2.2.2.2.2.2.1)
variable {y : MethodName} {bytes : ByteArray} {maxL n index mc ms : Nat} {rt : Option FieldType} {wsY : List Cond} {rm : Room} {Cn : String} {b : Nat} {As st0 st2 : List Value} {wc : va_W} {lv : List (Nat × Value)}
/-- an instance call that throws, caught here -/
theorem kxVc {S2 : Type} {ci : Nat} {fs : List Value} {T : u_T} {N : Nat} {E : Nat} {w2 : S2 → va_W} (wr : va_W) (hp : ws.Perm (wc ++ wr)) (C : CT g p s m args meth c own cc nL ret Ts A) (X : ST g A s H locs ws) (hM : KX l y wsY rm g (.ref b :: As) wc (.inl (E, w2)) mc ms) (cw : CallW R s args own Cn index y bytes maxL rt wsY rm mc ms n) (q0 : Nat) (he : wc[q0]? = some (b, .inr (ci, fs))) (hc : vwCl[ci]? = some (Cn, T, N)) (hlen : As.length = n) (hl : lv_has ls nL lv) (hst : st0 = As.reverse ++ .ref b :: rest) (hroom : (rest.map fun v => v.category).sum ≤ 8) (hdg : decode cc pc = .ok (.invokevirtual index, 3)) (hf : cells + mc ≤ R.cells ∧ slots + ms ≤ R.slots)
    (pre : List ExceptionTableEntry) (x : ExceptionTableEntry) (suf : List ExceptionTableEntry) (hsplit : c.exceptionTable.toList = pre ++ x :: suf)
    (hpass : ∀ z ∈ pre, z.catchType ≠ 0 ∧ ∃ nm : String, (Cond.classLink own z.catchType nm) ∈ Ts ∧ (kEx E, nm) ∈ kNcs) (hx : covers x pc = true) (h0 : x.catchType ≠ 0) (hlink : (Cond.classLink own x.catchType (kEx E)) ∈ Ts) (hcast : (kEx E, kEx E) ∈ kCasts)
    (kk : ∀ (u : S2) (q : Nat) (H1 : Heap) (locs1 : List Loc), ST g A s H1 locs1 (wr ++ w2 u) → W p l e R s m args below meth c H1 locs1 (cells + mc) (slots + ms) Q (F0 m x.handlerPc ls [.ref q])) : W p l e R s m args below meth c H locs cells slots Q (F0 m pc ls st0) := by
  have hts := C.2.2.2.2.2.1
  obtain ⟨-, ⟨-, hcs, -⟩, -, -, -, -, -, -, hnc⟩ := C.2.2.2.2.2.2.2.1
  exact kxcall (out := .inl (E, w2)) hp C X (vx_runV (g := F0 m pc ls st0) ⟨C.1, C.2.1, C.2.2.2.1, C.2.2.2.2.1, C.2.2.2.2.2.1⟩ (hM H.size) cw (kxpreV hp C X q0 he hc) rfl hlen hl.1 hst (lv_room (m := m) (pc := pc) (ls := ls) (rest := st0) hroom) hdg hf) (fun u q ce H1 locs1 X1 h1 h2 h3 =>
    vx_catch C.2.2.2.2.1 pre x suf hsplit (fun z hz => by
      obtain ⟨a1, nm, a2, a3⟩ := hpass z hz
      exact Or.inr ⟨a1, nm, hts _ a2, hnc _ a3⟩) hx h0 (hts _ hlink) (va_Nw.use rfl (hcs _ hcast)) h1 h2 h3 (kk u q H1 locs1 X1))
/-- a static call of a method with handlers -/
theorem keSW {w2 w4 : S → va_W} {r : Option Value} {hh : List (Nat × Nat × Nat × Nat)} (wr : va_W) (hp : ws.Perm (wc ++ wr)) (C : CT g p s m args meth c own cc nL ret Ts A) (X : ST g A s H locs ws) (hM : KE l y wsY rm g As wc r w2 mc ms) (cw : vx_CSW R s args own index y bytes maxL rt hh wsY rm mc ms n) (hlen : As.length = n) (hl : lv_has ls nL lv) (hst : st0 = As.reverse ++ rest) (hroom : (rest.map fun v => v.category).sum ≤ 8) (hst2 : r.toList ++ rest = st2) (hdg : decode cc pc = .ok (.invokestatic index, 3)) (hf : cells + mc ≤ R.cells ∧ slots + ms ≤ R.slots) (hp2 : ∀ u, (wr ++ w2 u).Perm (w4 u))
    (kk : ∀ (u : S) (H1 : Heap) (locs1 : List Loc), ST g A s H1 locs1 (w4 u) → W p l e R s m args below meth c H1 locs1 (cells + mc) (slots + ms) Q (F0 m (pc + 3) ls st2)) : W p l e R s m args below meth c H locs cells slots Q (F0 m pc ls st0) := by
  subst hst2
  have Xp := X.perm hp
  have hC := k_appL wc wr
  have hdis : ∀ i ∈ (List.range wr.length).map (fun i => wc.length + i), i ∉ List.range wc.length := fun i hi hj => by
    obtain ⟨k, -, rfl⟩ := List.mem_map.mp hi
    rw [List.mem_range] at hj
    omega
  have hF := va_free Xp.2.1 Xp.2.2 C.2.2.2.2.2.2.2.2 (List.range wc.length) hC
  refine kcallE (vx_runSW (g := F0 m pc ls st0) ⟨C.1, C.2.1, C.2.2.2.1, C.2.2.2.2.1, C.2.2.2.2.2.1⟩ (hM H.size) cw (kxpreS hp C X) rfl hlen hl.1 hst (lv_room (m := m) (pc := pc) (ls := ls) (rest := st0) hroom) hdg hf) X.2.2 (fun q _ h => hF q h) hF (fun u H1 locs1 hP1 hD1 hz hk hS => kk u H1 locs1 ((kjoin (isR := (List.range wr.length).map (fun i => wc.length + i)) C Xp hC (k_appR wc wr) (k_nd_shift _ _) hdis hP1 hD1 hk hS).perm (hp2 u)))
end LW
