-- constructors: contracts that make cells and never throw; a world for each choice of new addresses
def KE {S : Type} (l : Launch) (y : MethodName) (ws : List Cond) (rm : Room) (g : kG) (av : List Value) (wc : va_W) (r : Option Value) (w2 : S → va_W) (mc ms : Nat) : Prop := ∀ sz : Nat, Met l y ws rm (kPc g av sz wc) (kQe g r w2 (va_A wc sz)) mc ms (va_A wc sz)
abbrev kEndE {S : Type} (g : kG) (below : List Frame) (args : Array Value) (s : State) (r : Option Value) (w2 : S → va_W) (A : Nat → Prop) (mc ms : Nat) : State → Prop := MQ below (kQe g r w2 A) args s mc ms A
theorem KE.of {S : Type} {l : Launch} {y : MethodName} {ws ws' : List Cond} {rm : Room} {g : kG} {av : List Value} {wc : va_W} {r : Option Value} {w2 : S → va_W} {mc ms nL : Nat} {cc : ByteArray} {ret : Option FieldType} (hy : plainName y.cls = true) (hw : ws = Cond.code y cc nL ret :: ws') (hlen : (lg_sl av).length ≤ nL)
    (body : ∀ (p : Program) (e : Env) (s : State) (m : MethodId) (args : Array Value) (below : List Frame) (meth : Method) (c : Code) (A : Nat → Prop) (ls : Array Slot), CT g p s m args meth c y.cls cc nL ret ws A → meth.name = y.name → ST g A s s.heap [] wc → lv_has ls nL (lv_args 0 av) →
      W p l e rm s m args below meth c s.heap [] 0 0 (kEndE g below args s r w2 A mc ms) (F0 m 0 ls [])) : KE l y ws rm g av wc r w2 mc ms := by
  intro sz
  refine Met.ofW (cc := cc) (maxL := nL) (ret := ret) hy hw ?_
  intro p e s m args below meth c s₁ B hml hv
  obtain ⟨rfl, hsz, hP, hD0, hamb⟩ := hv
  subst hsz
  have hl := lv_entry av hlen
  rw [lg_entry_eq]
  exact body p e s m av.toArray below meth c (va_A wc s.heap.size) _ ⟨B.exec, B.bytes, B.returns, hml, findClass_of_methodNamed B.named, atoms_spec (ws := ws) B.pre, B.notSynchronized, hamb, fun q h => Or.inr h⟩ (name_of_methodNamed B.named B.method).1 ⟨hP, hD0.self, va_S.rf⟩ hl
section KI
variable {S : Type} {p : Program} {l : Launch} {e : Env} {R : Room} {s : State} {m : MethodId} {args : Array Value} {below : List Frame} {meth : Method} {c : Code} {H : Heap} {locs : List Loc} {cells slots : Nat} {Q : State → Prop}
variable {g : kG} {A : Nat → Prop} {own : String} {cc : ByteArray} {nL : Nat} {ret : Option FieldType} {Ts : List Cond} {pc : Nat} {ls : Array Slot} {rest : List Value} {ws w3 : va_W} {lv : List (Nat × Value)} {index : Nat}
theorem kevret {w2 : S → va_W} (u : S) (C : CT g p s m args meth c own cc nL none Ts A) (X : ST g A s H locs (w2 u)) (hdg : decode cc pc = .ok (.return_, 1)) : W p l e R s m args below meth c H locs cells slots (kEndE g below args s none w2 A cells slots) (F0 m pc ls []) :=
  W.vret C.1 C.2.1 C.2.2.1 (fun t ht _ => ⟨u, ⟨rfl, by rw [ht]; exact X.1, X.2.1⟩, X.2.2.F ht⟩) X.2.2.2.2 hdg (hlocks := C.2.2.2.2.2.2.1)
theorem kobj {a : Nat} (C : CT g p s m args meth c own cc nL ret Ts A) (hl : lv_has ls nL lv) (hw : (Cond.methodLink own index objectInit) ∈ Ts ∧ (Cond.instanceMethod objectInit) ∈ Ts ∧ (Cond.code objectInit ⟨#[0xb1]⟩ 1 none) ∈ Ts) (hfr : 1 ≤ R.frames) (hlo : (rest.map fun v => v.category).sum + 12 ≤ R.locals) (hdg : decode cc pc = .ok (.invokespecial index, 3))
    (kk : W p l e R s m args below meth c H locs cells slots Q (F0 m (pc + 3) ls rest)) : W p l e R s m args below meth c H locs cells slots Q (F0 m pc ls (.ref a :: rest)) :=
  W.objInit C.1 C.2.1 C.2.2.2.2.1 (C.2.2.2.2.2.1 _ hw.1) (C.2.2.2.2.2.1 _ hw.2.1) (C.2.2.2.2.2.1 _ hw.2.2) (g := F0 m pc ls (.ref a :: rest)) rfl (hl.1.trans C.2.2.2.1.symm) rfl hdg hfr (by show 2 * 0 + _ + 12 ≤ _; omega) kk
theorem knew {ci N : Nat} {Cn : String} {T : u_T} (fs : List Value) (C : CT g p s m args meth c own cc nL ret Ts A) (X : ST g A s H locs ws) (hc : vwCl[ci]? = some (Cn, T, N)) (hin : ∀ w ∈ u_ws Cn T N, w ∈ Ts) {ty0 : Nat → FieldType} (hty : ∀ k, k < N → parseFieldDescriptor (T k).2.2.1 = some (ty0 k)) (hw : (Cond.classLink own index Cn) ∈ Ts ∧ (Cond.instantiable Cn N) ∈ Ts ∧ (Cond.initialized Cn) ∈ Ts) (hfs : ∀ j, j < N → defaultValue (ty0 j) = vp_V fs j) (hcells : cells + 1 ≤ R.cells) (hslots : slots + N ≤ R.slots) (hdg : decode cc pc = .ok (.new index, 3))
    (kk : ∀ (q : Nat) (H1 : Heap), ST g A s H1 locs (ws ++ [(q, .inr (ci, fs))]) → W p l e R s m args below meth c H1 locs (cells + 1) (slots + N) Q (F0 m (pc + 3) ls (.ref q :: rest))) : W p l e R s m args below meth c H locs cells slots Q (F0 m pc ls rest) :=
  va_new C.1 C.2.1 C.2.2.2.2.2.1 hin ty0 hty C.2.2.2.2.1 (C.2.2.2.2.2.1 _ hw.1) (C.2.2.2.2.2.1 _ hw.2.1) (C.2.2.2.2.2.1 _ hw.2.2) C.2.2.2.2.2.2.2.1.1 X.1 X.2.1 X.2.2 C.2.2.2.2.2.2.2.2 hc hfs hcells hslots hdg (fun q H1 h1 h2 h3 => kk q H1 ⟨h1, h2, h3⟩)
theorem knewi {n : Int32} (N' : Nat) (C : CT g p s m args meth c own cc nL ret Ts A) (X : ST g A s H locs ws) (harr : (Cond.arrayClass .int) ∈ Ts) (hn : ¬ n < 0) (hN : n.toNatClampNeg = N') (hby : N' * 4 ≤ 536870912) (hcells : cells + 1 ≤ R.cells) (hslots : slots + N' ≤ R.slots) (hdg : decode cc pc = .ok (.newarray .int, 2))
    (kk : ∀ (q : Nat) (H1 : Heap), ST g A s H1 locs (ws ++ [(q, .inl (kI g, N', .inl (fun _ => 0)))]) → W p l e R s m args below meth c H1 locs (cells + 1) (slots + N') Q (F0 m (pc + 2) ls (.ref q :: rest))) : W p l e R s m args below meth c H locs cells slots Q (F0 m pc ls (.int n :: rest)) :=
  va_newa (atype := .int) C.1 C.2.1 (C.2.2.2.2.2.1 _ harr) (ty := .int) rfl C.2.2.2.2.2.2.2.1.1 X.1 X.2.1 X.2.2 C.2.2.2.2.2.2.2.2 (a0 := (N', .inl fun _ => 0)) (fun cA => rfl) hn hN hby hcells hslots hdg (fun q cA H1 hK1 h1 h2 h3 => by
    have e1 : s.vm.findClass ("[" ++ FieldType.int.toString) = some cA := (hK1.2 5 _ rfl).2
    have e2 : s.vm.findClass ("[" ++ FieldType.int.toString) = some (kI g) := (C.2.2.2.2.2.2.2.1.1.2 0 _ rfl).2
    have e : cA = kI g := Option.some.inj (e1.symm.trans e2)
    rw [e] at h1 h2
    exact kk q H1 ⟨h1, h2, h3⟩)
theorem knewS {n : Int32} (N' : Nat) (C : CT g p s m args meth c own cc nL ret Ts A) (X : ST g A s H locs ws) (hcl : (Cond.classLink own index RX3) ∈ Ts) (hn : ¬ n < 0) (hN : n.toNatClampNeg = N') (hby : N' * 4 ≤ 536870912) (hcells : cells + 1 ≤ R.cells) (hslots : slots + N' ≤ R.slots) (hdg : decode cc pc = .ok (.anewarray index, 3))
    (kk : ∀ (q : Nat) (H1 : Heap), ST g A s H1 locs (ws ++ [(q, .inl (kSt g, N', .inr (.inr (.inr (.inr (fun _ => none))))))]) → W p l e R s m args below meth c H1 locs (cells + 1) (slots + N') Q (F0 m (pc + 3) ls (.ref q :: rest))) : W p l e R s m args below meth c H locs cells slots Q (F0 m pc ls (.int n :: rest)) :=
  va_newq C.1 C.2.1 C.2.2.2.2.1 (C.2.2.2.2.2.1 _ hcl) C.2.2.2.2.2.2.2.1.2.2.2.2.2.2.1 C.2.2.2.2.2.2.2.1.1 X.1 X.2.1 X.2.2 C.2.2.2.2.2.2.2.2 hn hN hby hcells hslots hdg (fun q cA H1 hK1 h1 h2 h3 => by
    obtain ⟨_, _, _, _, _, e1⟩ := (hK1.2 5 _ rfl).2
    obtain ⟨_, _, _, _, _, e2⟩ := (C.2.2.2.2.2.2.2.1.1.2 3 _ rfl).2
    have e : cA = kSt g := Option.some.inj (e1.symm.trans e2)
    rw [e] at h1 h2
    exact kk q H1 ⟨h1, h2, h3⟩)
theorem knewH {n : Int32} (N' : Nat) (C : CT g p s m args meth c own cc nL ret Ts A) (X : ST g A s H locs ws) (hcl : (Cond.classLink own index RX1) ∈ Ts) (hn : ¬ n < 0) (hN : n.toNatClampNeg = N') (hby : N' * 4 ≤ 536870912) (hcells : cells + 1 ≤ R.cells) (hslots : slots + N' ≤ R.slots) (hdg : decode cc pc = .ok (.anewarray index, 3))
    (kk : ∀ (q : Nat) (H1 : Heap), ST g A s H1 locs (ws ++ [(q, .inl (kSh g, N', .inr (.inr (.inr (.inr (fun _ => none))))))]) → W p l e R s m args below meth c H1 locs (cells + 1) (slots + N') Q (F0 m (pc + 3) ls (.ref q :: rest))) : W p l e R s m args below meth c H locs cells slots Q (F0 m pc ls (.int n :: rest)) :=
  va_newq C.1 C.2.1 C.2.2.2.2.1 (C.2.2.2.2.2.1 _ hcl) C.2.2.2.2.2.2.2.1.2.2.2.2.2.1 C.2.2.2.2.2.2.2.1.1 X.1 X.2.1 X.2.2 C.2.2.2.2.2.2.2.2 hn hN hby hcells hslots hdg (fun q cA H1 hK1 h1 h2 h3 => by
    obtain ⟨_, _, _, _, _, e1⟩ := (hK1.2 5 _ rfl).2
    obtain ⟨_, _, _, _, _, e2⟩ := (C.2.2.2.2.2.2.2.1.1.2 2 _ rfl).2
    have e : cA = kSh g := Option.some.inj (e1.symm.trans e2)
    rw [e] at h1 h2
    exact kk q H1 ⟨h1, h2, h3⟩)
theorem kputF (hnI : meth.name = "<init>") (C : CT g p s m args meth c own cc nL ret Ts A) (X : ST g A s H locs ws) (q0 : Nat) {a ci : Nat} {fs : List Value} {C0 : String} {T : u_T} {N : Nat} (he : ws[q0]? = some (a, .inr (ci, fs))) (hc : vwCl[ci]? = some (C0, T, N)) (hin : ∀ w ∈ u_ws C0 T N, w ∈ Ts) {ty0 : Nat → FieldType} (hty : ∀ k, k < N → parseFieldDescriptor (T k).2.2.1 = some (ty0 k)) (hnm : ∀ a, a < N → ∀ b, b < N → a ≠ b → (T a).2.1 ≠ (T b).2.1) (k : Nat) (hk : k < N) (hlink : (Cond.fieldLink own index (T k).1 (T k).2.1 (T k).2.2.1) ∈ Ts) (hfin : (T k).2.2.2 = true) (hdecl : (T k).1 = own) {ty : FieldType} {v : Value} (hd : ty0 k = ty) (hn : narrow ty v = v) (hfit : fits ty v = true) (hl : k < fs.length) (hw : ws.set q0 (a, .inr (ci, fs.set k v)) = w3) (hdg : decode cc pc = .ok (.putfield index, 3))
    (kk : ∀ (H1 : Heap) (locs1 : List Loc), ST g A s H1 locs1 w3 → W p l e R s m args below meth c H1 locs1 cells slots Q (F0 m (pc + 3) ls rest)) : W p l e R s m args below meth c H locs cells slots Q (F0 m pc ls (v :: .ref a :: rest)) := by
  subst hw
  exact va_putF C.1 C.2.1 C.2.2.2.2.2.1 hin ty0 hty hnm C.2.2.2.2.1 C.2.2.2.2.2.2.2.1.1 X.1 X.2.1 X.2.2 q0 he hc k hk (C.2.2.2.2.2.1 _ hlink) (fun _ h => h) hfin hnI hdecl (by rw [hty k hk, hd]) hn hfit hl hdg (fun H1 locs1 h1 h2 h3 => kk H1 locs1 ⟨h1, h2, h3⟩)
theorem kastS (C : CT g p s m args meth c own cc nL ret Ts A) (X : ST g A s H locs ws) (q0 q1 : Nat) {a n v : Nat} {vs : List Value} {f : Nat → Option Nat} (ha : ws[q0]? = some (a, .inl (kSt g, n, .inr (.inr (.inr (.inr f)))))) (hv : ws[q1]? = some (v, .inr (3, vs))) {i : Int32} (hin : inb i n = true) (hw : ws.set q0 (a, .inl (kSt g, n, .inr (.inr (.inr (.inr (va_up f i.toNatClampNeg (some v))))))) = w3) (hdg : decode cc pc = .ok (.aastore, 1))
    (kk : ∀ (H1 : Heap) (locs1 : List Loc), ST g A s H1 locs1 w3 → W p l e R s m args below meth c H1 locs1 cells slots Q (F0 m (pc + 1) ls rest)) : W p l e R s m args below meth c H locs cells slots Q (F0 m pc ls (.ref v :: .int i :: .ref a :: rest)) := by
  subst hw
  exact va_astq C.1 C.2.1 C.2.2.2.2.2.2.2.1.1 X.1 X.2.1 X.2.2 q0 3 q1 3 (r := (RX3, TX3, 3)) ha rfl hv rfl (inb_in hin) hdg (fun H1 locs1 h1 h2 h3 => kk H1 locs1 ⟨h1, h2, h3⟩)
theorem kastH (C : CT g p s m args meth c own cc nL ret Ts A) (X : ST g A s H locs ws) (q0 q1 : Nat) {a n v : Nat} {vs : List Value} {f : Nat → Option Nat} (ha : ws[q0]? = some (a, .inl (kSh g, n, .inr (.inr (.inr (.inr f)))))) (hv : ws[q1]? = some (v, .inr (1, vs))) {i : Int32} (hin : inb i n = true) (hw : ws.set q0 (a, .inl (kSh g, n, .inr (.inr (.inr (.inr (va_up f i.toNatClampNeg (some v))))))) = w3) (hdg : decode cc pc = .ok (.aastore, 1))
    (kk : ∀ (H1 : Heap) (locs1 : List Loc), ST g A s H1 locs1 w3 → W p l e R s m args below meth c H1 locs1 cells slots Q (F0 m (pc + 1) ls rest)) : W p l e R s m args below meth c H locs cells slots Q (F0 m pc ls (.ref v :: .int i :: .ref a :: rest)) := by
  subst hw
  exact va_astq C.1 C.2.1 C.2.2.2.2.2.2.2.1.1 X.1 X.2.1 X.2.2 q0 2 q1 1 (r := (RX1, TX1, 6)) ha rfl hv rfl (inb_in hin) hdg (fun H1 locs1 h1 h2 h3 => kk H1 locs1 ⟨h1, h2, h3⟩)
variable {y : MethodName} {bytes : ByteArray} {maxL mc ms n : Nat} {wsY : List Cond} {rm : Room} {b : Nat} {As st0 : List Value} {wc : va_W}
theorem kcallE {A0 A1 : Nat → Prop} {av : Array Value} {free : Addr → Prop} {r : Option Value} {w2 : S → va_W} (hr : va_Run p l e R s m args below meth c H locs cells slots mc ms (F0 m pc ls st0) rest (kQe g r w2 A1 av) free) (hS : va_S A0 s.heap H locs) (hA : ∀ q, q < H.size → A1 q → A0 q) (hf : ∀ q, free q → A0 q)
    (kk : ∀ (u : S) (H1 : Heap) (locs1 : List Loc), va_P g.1 vwCl (w2 u) H1 → va_D A1 (w2 u) → H.size ≤ H1.size → (∀ q : Nat, q < H.size → ¬ A1 q → H1[q]? = H[q]?) → va_S A0 s.heap H1 locs1 → W p l e R s m args below meth c H1 locs1 (cells + mc) (slots + ms) Q (F0 m (pc + 3) ls (r.toList ++ rest))) : W p l e R s m args below meth c H locs cells slots Q (F0 m pc ls st0) := by
  intro T hT X
  obtain ⟨v, st₀, t, T', L, h0, X', hL, e1, e2, ⟨u, ⟨hv, hp, hd⟩, hz, hk⟩, st⟩ := hr T hT X
  cases hv
  rw [h0] at hz hk
  obtain ⟨t2, a1, b1⟩ := kk u T'.heap (locs ++ L) (by rw [e1]; exact hp) hd (by rw [e1]; exact hz) (fun q h1 h2 => by rw [e1]; exact hk q h1 h2)
    ⟨Nat.le_trans hS.1 (by rw [e1]; exact hz), fun q h1 h2 => by rw [e1, hk q (Nat.lt_of_lt_of_le h1 hS.1) (fun z => h2 (hA q (Nat.lt_of_lt_of_le h1 hS.1) z))]; exact hS.2.1 q h1 h2, fun q hq => by
      rcases List.mem_append.mp hq with h | h
      · exact hS.2.2 q h
      · exact hf _ (hL q h)⟩ T' rfl X'
  exact ⟨t2, st t2 a1, b1⟩
/-- a constructor's call -/
theorem keI {w2 w4 : S → va_W} (wr : va_W) (hp : ws.Perm (wc ++ wr)) (C : CT g p s m args meth c own cc nL ret Ts A) (X : ST g A s H locs ws) (hM : KE l y wsY rm g (.ref b :: As) wc none w2 mc ms) (cw : CallB R s args own index y bytes maxL none wsY rm mc ms n ∧ y.name = "<init>" ∧ (Cond.instanceMethod y).before args s = true) (hlen : As.length = n) (hl : lv_has ls nL lv) (hst : st0 = As.reverse ++ .ref b :: rest) (hroom : (rest.map fun v => v.category).sum ≤ 8) (hdg : decode cc pc = .ok (.invokespecial index, 3)) (hf : cells + mc ≤ R.cells ∧ slots + ms ≤ R.slots) (hp2 : ∀ u, (wr ++ w2 u).Perm (w4 u))
    (kk : ∀ (u : S) (H1 : Heap) (locs1 : List Loc), ST g A s H1 locs1 (w4 u) → W p l e R s m args below meth c H1 locs1 (cells + mc) (slots + ms) Q (F0 m (pc + 3) ls rest)) : W p l e R s m args below meth c H locs cells slots Q (F0 m pc ls st0) := by
  have Xp := X.perm hp
  have hC := k_appL wc wr
  have hdis : ∀ i ∈ (List.range wr.length).map (fun i => wc.length + i), i ∉ List.range wc.length := fun i hi hj => by
    obtain ⟨k, -, rfl⟩ := List.mem_map.mp hi
    rw [List.mem_range] at hj
    omega
  have hF := va_free Xp.2.1 Xp.2.2 C.2.2.2.2.2.2.2.2 (List.range wc.length) hC
  refine kcallE (va_runI (g := F0 m pc ls st0) ⟨C.1, C.2.1, C.2.2.2.1, C.2.2.2.2.1, C.2.2.2.2.2.1⟩ (hM H.size) cw (kxpreS hp C X) rfl hlen hl.1 hst (lv_room (m := m) (pc := pc) (ls := ls) (rest := st0) hroom) hdg hf) X.2.2 (fun q _ h => hF q h) hF (fun u H1 locs1 hP1 hD1 hz hk hS => kk u H1 locs1 ((kjoin (isR := (List.range wr.length).map (fun i => wc.length + i)) C Xp hC (k_appR wc wr) (k_nd_shift _ _) hdis hP1 hD1 hk hS).perm (hp2 u)))
/-- the same cell said otherwise -/
theorem ST.cell (X : ST g A s H locs ws) (q0 : Nat) {a : Nat} {e0 e1 : va_E} (he : ws[q0]? = some (a, e0)) (hc : va_at g.1 vwCl (a, e0) H → va_at g.1 vwCl (a, e1) H) : ST g A s H locs (ws.set q0 (a, e1)) :=
  ⟨X.1.set X.2.1 he (hc (X.1 q0 _ he)) (fun _ _ => rfl), X.2.1.set he, X.2.2⟩
theorem kcell {cA : ClassId} {n : Nat} {f f' : Nat → Option Nat} (h : ∀ j, j < n → f j = f' j) : vp_cell cA (n, .inr (.inr (.inr (.inr f)))) = vp_cell cA (n, .inr (.inr (.inr (.inr f')))) := by
  rw [vp_cell_q, vp_cell_q]
  unfold arrV
  congr 1
  apply Array.ext
  · simp
  · intro i h1 h2
    simp only [Array.getElem_ofFn]
    rw [h i (by simpa using h1)]
end KI
-- the constructors
def ad2 (x y : Nat) : Nat → Nat := fun j => match j with | 0 => x | _ => y
def S0 : SS := (fun _ => 0, 0, 0)
abbrev rX3_init : Room := { frames := 1, cells := 1, slots := 72, locals := 12 }
theorem in_X3_init : ∀ w ∈ u_ws RX3 TX3 3, w ∈ wsX3_init := by decide +kernel
set_option maxRecDepth 100000 in
set_option maxHeartbeats 4000000 in
theorem kX3_init (l : Launch) (g : kG) (x : Nat) : KE (S := Nat) l yX3_init wsX3_init rX3_init g [.ref x] [(x, .inr (3, [.null, .int 0, .int 0]))] none (fun y => wS g (ad2 x y) S0) 1 72 := by
  refine KE.of (nL := 1) (by decide) rfl (Nat.le_of_ble_eq_true rfl) ?_
  intro p e s m args below meth c A ls C hnI X hl
  have C : CT g p s m args meth c RX3 cX3_init 1 none wsX3_init A := C
  have hx := C.1
  have hb := C.2.1
  have hl : lv_has ls 1 [(0, .ref x)] := hl
  refine lv_aload_n hx hb dX3_init_0 rfl (lv_at hl 0 rfl) ?_
  refine kobj C hl (by decide +kernel) (Nat.le_of_ble_eq_true rfl) (Nat.le_of_ble_eq_true rfl) dX3_init_1 ?_
  refine lv_aload_n hx hb dX3_init_4 rfl (lv_at hl 0 rfl) ?_
  refine lv_bipush (v := 72) hx hb dX3_init_5 (by decide) ?_
  refine knewi 72 C X (by decide +kernel) (by decide) (by decide) (by decide) (Nat.le_of_ble_eq_true rfl) (Nat.le_of_ble_eq_true rfl) dX3_init_7 (fun y H X => ?_)
  refine kputF hnI C X 0 (ci := 3) rfl rfl in_X3_init tyX3_ok nmX3 0 (by decide) (by decide +kernel) rfl rfl (ty := .array .int) rfl rfl rfl (Nat.le_of_ble_eq_true rfl) (w3 := wS g (ad2 x y) S0) rfl dX3_init_9 (fun H locs X => ?_)
  exact kevret (w2 := fun y => wS g (ad2 x y) S0) y C X dX3_init_12
