/-! K: one shape for worlds, contracts, calls; and the pure words (gd, lp) in which every method's mirror is written -/
-- pure words
def gd {α : Type} (b : Bool) (x : Option α) : Option α := if b = true then x else none
def inb (i : Int32) (n : Nat) : Bool := decide (¬ (i < 0 ∨ n ≤ i.toNatClampNeg))
theorem inb_in {i : Int32} {n : Nat} (h : inb i n = true) : vp_in i n := show ¬ (i < 0 ∨ n ≤ i.toNatClampNeg) from of_decide_eq_true h
theorem gd_t {α : Type} {b : Bool} {x : Option α} {q : α} (h : gd b x = some q) : b = true ∧ x = some q := by
  unfold gd at h
  split at h
  · exact ⟨by assumption, h⟩
  · cases h
theorem ifp {α : Type} {c : Prop} [Decidable c] {a b : Option α} {q : α} (hc : c) (h : (if c then a else b) = some q) : a = some q := by rw [if_pos hc] at h; exact h
theorem ifn {α : Type} {c : Prop} [Decidable c] {a b : Option α} {q : α} (hc : ¬ c) (h : (if c then a else b) = some q) : b = some q := by rw [if_neg hc] at h; exact h
theorem bnd {α β : Type} {x : Option α} {f : α → Option β} {q : β} (h : x.bind f = some q) : ∃ a, x = some a ∧ f a = some q := by
  cases x with
  | none => cases h
  | some a => exact ⟨a, rfl, h⟩
theorem sm {α : Type} {a b : α} (h : some a = some b) : a = b := Option.some.inj h
/-- a name for a number -/
def lt {α β : Type} (x : α) (f : α → Option β) : Option β := f x
theorem lt_t {α β : Type} {x y : α} {f : α → Option β} {q : β} (e : y = x) (h : lt x f = some q) : f y = some q := by rw [e]; exact h
/-- a loop: body gives the next state or the end -/
def whl {σ ρ : Type} (f : σ → Option (σ ⊕ ρ)) : Nat → σ → Option ρ
  | 0, _ => none
  | n + 1, s => (f s).bind fun r => Sum.elim (fun s' => whl f n s') (fun r => some r) r
theorem whl_up {σ ρ : Type} {f : σ → Option (σ ⊕ ρ)} : ∀ {n : Nat} {s : σ} {r : ρ}, whl f n s = some r → whl f (n + 1) s = some r
  | 0, _, _, h => by cases h
  | n + 1, s, r, h => by
    rw [whl] at h
    obtain ⟨q, hq, h⟩ := bnd h
    rw [whl, hq]
    cases q with
    | inl s' => exact whl_up (n := n) h
    | inr r' => exact h
theorem whl_le {σ ρ : Type} {f : σ → Option (σ ⊕ ρ)} {n k : Nat} {s : σ} {r : ρ} (h : whl f n s = some r) : whl f (n + k) s = some r := by
  induction k with
  | zero => exact h
  | succ k ih => exact whl_up ih
theorem whl_un {σ ρ : Type} {f : σ → Option (σ ⊕ ρ)} {n k : Nat} {s : σ} {r q : ρ} (h : whl f n s = some r) (h2 : whl f k s = some q) : r = q := by
  have a := whl_le (k := k) h
  have b := whl_le (k := n) h2
  rw [Nat.add_comm] at b
  exact sm (a.symm.trans b)
noncomputable def lp {σ ρ : Type} (f : σ → Option (σ ⊕ ρ)) (s : σ) : Option ρ := by
  classical exact if h : ∃ (n : Nat) (r : ρ), whl f n s = some r then some (Classical.choose (Classical.choose_spec h)) else none
theorem lp_of {σ ρ : Type} {f : σ → Option (σ ⊕ ρ)} {n : Nat} {s : σ} {r : ρ} (h : whl f n s = some r) : lp f s = some r := by
  have he : ∃ (n : Nat) (r : ρ), whl f n s = some r := ⟨n, r, h⟩
  unfold lp
  rw [dif_pos he]
  exact congrArg some (whl_un (Classical.choose_spec (Classical.choose_spec he)) h)
theorem lp_run {σ ρ : Type} {f : σ → Option (σ ⊕ ρ)} {s : σ} {r : ρ} (h : lp f s = some r) : ∃ n, whl f n s = some r := by
  unfold lp at h
  split at h
  · rename_i he
    exact ⟨_, (Classical.choose_spec (Classical.choose_spec he)).trans h⟩
  · cases h
theorem lp_eq {σ ρ : Type} (f : σ → Option (σ ⊕ ρ)) (s : σ) : lp f s = (f s).bind fun r => Sum.elim (fun s' => lp f s') (fun r => some r) r := by
  cases hx : lp f s with
  | some r =>
    obtain ⟨n, hn⟩ := lp_run hx
    cases n with
    | zero => cases hn
    | succ n =>
      rw [whl] at hn
      obtain ⟨q, hq, hn⟩ := bnd hn
      rw [hq]
      cases q with
      | inl s' => exact (lp_of hn).symm
      | inr r' => exact hn.symm
  | none =>
    cases hf : f s with
    | none => rfl
    | some q =>
      cases q with
      | inl s' =>
        cases hl : lp f s' with
        | none => exact hl.symm
        | some r =>
          obtain ⟨n, hn⟩ := lp_run hl
          have : whl f (n + 1) s = some r := by rw [whl, hf]; exact hn
          rw [lp_of this] at hx
          cases hx
      | inr r =>
        have : whl f 1 s = some r := by rw [whl, hf]; rfl
        rw [lp_of this] at hx
        cases hx
-- the ambient: what the tables say, the nest's links, the static rows
abbrev kG : Type := va_G × (ClassId × ClassId × ClassId × ClassId × ClassId) × (Nat × Nat × Nat)
abbrev kI (g : kG) : ClassId := g.2.1.1
abbrev kZ (g : kG) : ClassId := g.2.1.2.1
abbrev kSh (g : kG) : ClassId := g.2.1.2.2.1
abbrev kSt (g : kG) : ClassId := g.2.1.2.2.2.1
abbrev kLo (g : kG) : ClassId := g.2.1.2.2.2.2
abbrev kT (g : kG) : List (ClassId × FieldType) := [(kI g, .int), (kI g, .int), (kSh g, .object RX1), (kSt g, .object RX3), (kI g, .int)]
def kNests : List (String × Nat × MethodName × String) := [(RX1, 46, yX5_copyRow, RX5), (RX1, 59, yX5_cell, RX5), (RX1, 63, yX5_putCell, RX5), (RX2, 64, yX5_hasBit, RX5), (RX2, 71, yX5_putCell, RX5), (RX2, 75, yX5_cell, RX5), (RX3, 22, yX5_hasBit, RX5), (RX3, 32, yX5_copyRow, RX5), (RX3, 75, yX5_root, RX5)]
def kCasts : List (String × String) := [("[I", "java/lang/Cloneable"), ("java/lang/IndexOutOfBoundsException", "java/lang/IndexOutOfBoundsException"), ("java/lang/IllegalArgumentException", "java/lang/IllegalArgumentException"), ("java/lang/IllegalStateException", "java/lang/IllegalStateException")]
def kDecl : List MethodName := [Bundle.initS "java/lang/RuntimeException", Bundle.initS "java/lang/Exception", Bundle.initS Bundle.tN]
def kNest (U : State) : Prop := (∀ q ∈ kNests, va_Nw (.methodLinkNest q.1 q.2.1 q.2.2.1 q.2.2.2) U) ∧ (∀ q ∈ kCasts, va_Nw (.castable q.1 q.2) U) ∧ ∀ y ∈ kDecl, va_Nw (.declares y) U
def kF0 : Nat → Value := fun j => .int (match j with | 0 => 3 | 1 => 50 | 2 => 4 | _ => 20)
def kF1 : Nat → Value := fun j => .int (match j with | 2 => 1 | _ => 0)
def kF2 : Nat → Value := fun j => .int (match j with | 0 => 50 | 1 => 100 | 2 => 20 | _ => 100)
def kStat (t : Nat × Nat × Nat) (A : Nat → Prop) (U : State) (H : Heap) : Prop := (va_Z RX5 "FIRST_VALUES" "[I" (.ref t.1) A U H ∧ va_Z RX5 "LEAST_VALUES" "[I" (.ref t.2.1) A U H ∧ va_Z RX5 "GREATEST_VALUES" "[I" (.ref t.2.2) A U H) ∧ va_T .int t.1 4 kF0 A U H ∧ va_T .int t.2.1 4 kF1 A U H ∧ va_T .int t.2.2 4 kF2 A U H
def kStrL : List (Nat × String) := [(105, "the stroke has no room for a point"), (129, "the stroke has only two points"), (223, "a point has no such number"), (247, "a stroke has no such number"), (281, "there is no such stroke"), (286, "there is no room for a stroke"), (288, "there is no such point"), (293, "there is no such setting"), (295, "an argument is out of range"), (96, "no point can get this number")]
def kExc (A : Nat → Prop) (U : State) (H : Heap) : Prop := (∃ ad : Nat → Nat, ∀ q ∈ kStrL, vk_R RX5 q.1 q.2 (ad q.1) U) ∧ vx_Zq Bundle.tN "UNASSIGNED_STACK" Bundle.steD A U H ∧ vx_Zq Bundle.tN "SUPPRESSED_SENTINEL" Bundle.listD A U H
def kNcs : List (String × String) := [("java/lang/IllegalArgumentException", "java/lang/IndexOutOfBoundsException"), ("java/lang/IllegalStateException", "java/lang/IndexOutOfBoundsException"), ("java/lang/IllegalStateException", "java/lang/IllegalArgumentException")]
def kFv (g : kG) (A : Nat → Prop) (H : Heap) : Prop := ∃ cell : Cell, H[g.2.2.1]? = some cell ∧ (∀ k, cell.vm ≠ .statics k) ∧ cell.vm ≠ .unknown ∧ cell.cls = kI g ∧ cell.slots = (arrV (kI g) 4 kF0).slots ∧ ¬ A g.2.2.1
theorem kFv.kept {g : kG} {A : Nat → Prop} {H H1 : Heap} (h : kFv g A H) (hq : ∀ a : Nat, a < H.size → ¬ A a → H1[a]? = H[a]?) : kFv g A H1 := by
  obtain ⟨cell, h1, h2, h3, h4, h5, h6⟩ := h
  exact ⟨cell, by rw [hq _ (Array.getElem?_eq_some_iff.mp h1).1 h6]; exact h1, h2, h3, h4, h5, h6⟩
theorem kFv.narrow {g : kG} {A B : Nat → Prop} {H : Heap} (h : kFv g A H) (hAB : ∀ q, B q → A q) : kFv g B H := by
  obtain ⟨cell, h1, h2, h3, h4, h5, h6⟩ := h
  exact ⟨cell, h1, h2, h3, h4, h5, fun z => h6 (hAB _ z)⟩
def kMore (g : kG) (A : Nat → Prop) (U : State) (H : Heap) : Prop := kFv g A H ∧ va_AO RX1 U ∧ va_AO RX3 U ∧ va_Nw (.fieldLinkNest RX1 22 RX5 "FIRST_VALUES" "[I" RX5) U ∧ ∀ q ∈ kNcs, va_Nc q.1 q.2 U
def kAmb (g : kG) (A : Nat → Prop) (U : State) (H : Heap) : Prop := va_K g.1 vwCl (kT g) U ∧ kNest U ∧ kStat g.2.2 A U H ∧ kExc A U H ∧ kMore g A U H
theorem kAmb.call {g : kG} {A B : Nat → Prop} {s U : State} {H : Heap} {locs : List Loc} (h : kAmb g A s s.heap) (hS : va_S A s.heap H locs) (hAB : ∀ q, B q → A q) (hW : s.WarmedH U.vm) (hU : U.heap = H) : kAmb g B U U.heap := by
  obtain ⟨hK, ⟨hN, hC, hDc⟩, ⟨⟨z1, z2, z3⟩, t1, t2, t3⟩, ⟨⟨ad, hR⟩, x1, x2⟩, hfv, ha1, ha3, hfn, hnc⟩ := h
  subst hU
  have al := hW.alike
  have kp := hS.2.1
  exact ⟨va_K.moved al hK, ⟨fun q hq => va_Nw.warmM hW (hN q hq), fun q hq => va_Nw.warmC hW (hC q hq), fun q hq => va_Nw.warmD hW (hDc q hq)⟩, ⟨⟨((z1.kept kp).moved al).narrow hAB, ((z2.kept kp).moved al).narrow hAB, ((z3.kept kp).moved al).narrow hAB⟩, ((t1.kept kp).moved al).narrow hAB, ((t2.kept kp).moved al).narrow hAB, ((t3.kept kp).moved al).narrow hAB⟩, ⟨⟨ad, fun q hq => vk_R.warm hW (hR q hq)⟩, ((x1.kept kp).moved al).narrow hAB, ((x2.kept kp).moved al).narrow hAB⟩, (hfv.kept kp).narrow hAB, ha1.moved al, ha3.moved al, va_Nw.warmF hW hfn, fun q hq => (hnc q hq).moved al⟩
theorem kAmb.blind {g : kG} {A : Nat → Prop} {U : State} (gg : JFrame) (mk : MethodId) (a : Array Value) (h : kAmb g A U U.heap) : kAmb g A (U.calling gg mk a) (U.calling gg mk a).heap := by
  obtain ⟨hK, ⟨hN, hC, hDc⟩, ⟨⟨z1, z2, z3⟩, t1, t2, t3⟩, ⟨⟨ad, hR⟩, x1, x2⟩, hfv, ha1, ha3, hfn, hnc⟩ := h
  have al : U.vm.Alike (U.calling gg mk a).vm := Vm.Alike.refl U.vm
  exact ⟨va_K.moved (u := U) al hK, ⟨fun q hq => va_Nw.same (u := U) rfl rfl (hN q hq), fun q hq => va_Nw.same (u := U) rfl rfl (hC q hq), fun q hq => va_Nw.same (u := U) rfl rfl (hDc q hq)⟩, ⟨⟨z1.moved (u := U) al, z2.moved (u := U) al, z3.moved (u := U) al⟩, t1.moved (u := U) al, t2.moved (u := U) al, t3.moved (u := U) al⟩, ⟨⟨ad, fun q hq => vk_R.same (u := U) rfl (hR q hq)⟩, x1.moved (u := U) al, x2.moved (u := U) al⟩, hfv, va_AO.moved (u := U) al ha1, va_AO.moved (u := U) al ha3, va_Nw.same (u := U) rfl rfl hfn, fun q hq => va_Nc.moved (u := U) al (hnc q hq)⟩
def kPc (g : kG) (av : List Value) (sz : Nat) (wc : va_W) : Array Value → State → Prop := va_Pc av (fun U => U.heap.size = sz ∧ va_P g.1 vwCl wc U.heap ∧ va_D (fun _ => True) wc ∧ kAmb g (va_A wc sz) U U.heap)
def kQ (g : kG) (r : Option Value) (w2 : va_W) (A : Nat → Prop) : Array Value → State → Outcome → State → Prop := fun _ st oc t => (oc = .returned r ∧ va_P g.1 vwCl w2 t.heap ∧ va_D A w2) ∧ va_F A st t
def KM (l : Launch) (y : MethodName) (ws : List Cond) (rm : Room) (g : kG) (av : List Value) (wc : va_W) (r : Option Value) (w2 : va_W) (mc ms : Nat) : Prop := ∀ sz : Nat, Met l y ws rm (kPc g av sz wc) (kQ g r w2 (va_A wc sz)) mc ms (va_A wc sz)
def ST (g : kG) (A : Nat → Prop) (s : State) (H : Heap) (locs : List Loc) (ws : va_W) : Prop := va_P g.1 vwCl ws H ∧ va_D A ws ∧ va_S A s.heap H locs
def CT (g : kG) (p : Program) (s : State) (m : MethodId) (args : Array Value) (meth : Method) (c : Code) (own : String) (cc : ByteArray) (nL : Nat) (ret : Option FieldType) (Ts : List Cond) (A : Nat → Prop) : Prop :=
  p.tables.exec = Jvm.exec ∧ c.code = cc ∧ meth.sig.returnType = ret ∧ c.maxLocals = nL ∧ s.vm.findClass own = some m.cls ∧ (∀ w ∈ Ts, w.before args s = true) ∧ meth.locks = false ∧ kAmb g A s s.heap ∧ (∀ q : Nat, s.heap.size ≤ q → A q)
abbrev kEnd (g : kG) (below : List Frame) (args : Array Value) (s : State) (r : Option Value) (w2 : va_W) (A : Nat → Prop) (mc ms : Nat) : State → Prop := MQ below (kQ g r w2 A) args s mc ms A
theorem KM.of {l : Launch} {y : MethodName} {ws ws' : List Cond} {rm : Room} {g : kG} {av : List Value} {wc : va_W} {r : Option Value} {w2 : va_W} {mc ms nL : Nat} {cc : ByteArray} {ret : Option FieldType} (hy : plainName y.cls = true) (hw : ws = Cond.code y cc nL ret :: ws') (hlen : (lg_sl av).length ≤ nL)
    (body : ∀ (p : Program) (e : Env) (s : State) (m : MethodId) (args : Array Value) (below : List Frame) (meth : Method) (c : Code) (A : Nat → Prop) (ls : Array Slot), CT g p s m args meth c y.cls cc nL ret ws A → ST g A s s.heap [] wc → lv_has ls nL (lv_args 0 av) →
      W p l e rm s m args below meth c s.heap [] 0 0 (kEnd g below args s r w2 A mc ms) (F0 m 0 ls [])) : KM l y ws rm g av wc r w2 mc ms := by
  intro sz
  refine Met.ofW (cc := cc) (maxL := nL) (ret := ret) hy hw ?_
  intro p e s m args below meth c s₁ B hml hv
  obtain ⟨rfl, hsz, hP, hD0, hamb⟩ := hv
  subst hsz
  have hl := lv_entry av hlen
  rw [lg_entry_eq]
  exact body p e s m av.toArray below meth c (va_A wc s.heap.size) _ ⟨B.exec, B.bytes, B.returns, hml, findClass_of_methodNamed B.named, atoms_spec (ws := ws) B.pre, B.notSynchronized, hamb, fun q h => Or.inr h⟩ ⟨hP, hD0.self, va_S.rf⟩ hl
section KR
variable {p : Program} {l : Launch} {e : Env} {R : Room} {s : State} {m : MethodId} {args : Array Value} {below : List Frame} {meth : Method} {c : Code} {H : Heap} {locs : List Loc} {cells slots : Nat} {Q : State → Prop}
variable {g : kG} {A : Nat → Prop} {own : String} {cc : ByteArray} {nL : Nat} {ret : Option FieldType} {Ts : List Cond} {pc : Nat} {ls : Array Slot} {rest : List Value} {ws w2 : va_W}
theorem kiret {v : Int32} (C : CT g p s m args meth c own cc nL (some .int) Ts A) (X : ST g A s H locs w2) (hdg : decode cc pc = .ok (.ireturn, 1)) : W p l e R s m args below meth c H locs cells slots (kEnd g below args s (some (.int v)) w2 A cells slots) (F0 m pc ls [.int v]) :=
  W.iret C.1 C.2.1 C.2.2.1 (fun t ht _ => ⟨⟨rfl, by rw [ht]; exact X.1, X.2.1⟩, X.2.2.F ht⟩) X.2.2.2.2 hdg (hlocks := C.2.2.2.2.2.2.1)
theorem kzret {v : Int32} (hn : narrow .boolean (.int v) = .int v) (C : CT g p s m args meth c own cc nL (some .boolean) Ts A) (X : ST g A s H locs w2) (hdg : decode cc pc = .ok (.ireturn, 1)) : W p l e R s m args below meth c H locs cells slots (kEnd g below args s (some (.int v)) w2 A cells slots) (F0 m pc ls [.int v]) :=
  W.zret C.1 C.2.1 C.2.2.1 hn (fun t ht _ => ⟨⟨rfl, by rw [ht]; exact X.1, X.2.1⟩, X.2.2.F ht⟩) X.2.2.2.2 hdg (hlocks := C.2.2.2.2.2.2.1)
theorem klret {v : Int64} (C : CT g p s m args meth c own cc nL (some .long) Ts A) (X : ST g A s H locs w2) (hdg : decode cc pc = .ok (.lreturn, 1)) : W p l e R s m args below meth c H locs cells slots (kEnd g below args s (some (.long v)) w2 A cells slots) (F0 m pc ls [.long v]) :=
  W.lret C.1 C.2.1 C.2.2.1 (fun t ht _ => ⟨⟨rfl, by rw [ht]; exact X.1, X.2.1⟩, X.2.2.F ht⟩) X.2.2.2.2 hdg (hlocks := C.2.2.2.2.2.2.1)
theorem kvret (C : CT g p s m args meth c own cc nL none Ts A) (X : ST g A s H locs w2) (hdg : decode cc pc = .ok (.return_, 1)) : W p l e R s m args below meth c H locs cells slots (kEnd g below args s none w2 A cells slots) (F0 m pc ls []) :=
  W.vret C.1 C.2.1 C.2.2.1 (fun t ht _ => ⟨⟨rfl, by rw [ht]; exact X.1, X.2.1⟩, X.2.2.F ht⟩) X.2.2.2.2 hdg (hlocks := C.2.2.2.2.2.2.1)
theorem karet {a : Nat} {C0 : String} (C : CT g p s m args meth c own cc nL (some (.object C0)) Ts A) (X : ST g A s H locs w2) (hdg : decode cc pc = .ok (.areturn, 1)) : W p l e R s m args below meth c H locs cells slots (kEnd g below args s (some (.ref a)) w2 A cells slots) (F0 m pc ls [.ref a]) :=
  W.aret C.1 C.2.1 C.2.2.1 (Or.inl ⟨_, rfl⟩) (Or.inr ⟨_, rfl⟩) (fun t ht _ => ⟨⟨rfl, by rw [ht]; exact X.1, X.2.1⟩, X.2.2.F ht⟩) X.2.2.2.2 hdg (hlocks := C.2.2.2.2.2.2.1)
theorem kget (C : CT g p s m args meth c own cc nL ret Ts A) (X : ST g A s H locs ws) (q0 : Nat) {a ci : Nat} {fs : List Value} {C0 : String} {T : u_T} {N : Nat} (he : ws[q0]? = some (a, .inr (ci, fs))) (hc : vwCl[ci]? = some (C0, T, N)) (hin : ∀ w ∈ u_ws C0 T N, w ∈ Ts) (k : Nat) (hk : k < N) {index : Nat} (hlink : (Cond.fieldLink own index (T k).1 (T k).2.1 (T k).2.2.1).before args s = true) {v : Value} (hv : fs[k]? = some v) (hdg : decode cc pc = .ok (.getfield index, 3))
    (kk : W p l e R s m args below meth c H locs cells slots Q (F0 m (pc + 3) ls (v :: rest))) : W p l e R s m args below meth c H locs cells slots Q (F0 m pc ls (.ref a :: rest)) :=
  va_get C.1 C.2.1 C.2.2.2.2.2.1 hin C.2.2.2.2.1 C.2.2.2.2.2.2.2.1.1 X.1 q0 he hc k hk hlink (fun _ h => h) hv hdg kk
theorem kput (C : CT g p s m args meth c own cc nL ret Ts A) (X : ST g A s H locs ws) (q0 : Nat) {a ci : Nat} {fs : List Value} {C0 : String} {T : u_T} {N : Nat} (he : ws[q0]? = some (a, .inr (ci, fs))) (hc : vwCl[ci]? = some (C0, T, N)) (hin : ∀ w ∈ u_ws C0 T N, w ∈ Ts) {ty0 : Nat → FieldType} (hty : ∀ k, k < N → parseFieldDescriptor (T k).2.2.1 = some (ty0 k)) (hnm : ∀ a, a < N → ∀ b, b < N → a ≠ b → (T a).2.1 ≠ (T b).2.1) (k : Nat) (hk : k < N) {index : Nat} (hlink : (Cond.fieldLink own index (T k).1 (T k).2.1 (T k).2.2.1).before args s = true) (hfin : (T k).2.2.2 = false) {ty : FieldType} {v : Value} (hd : ty0 k = ty) (hn : narrow ty v = v) (hfit : fits ty v = true) (hl : k < fs.length) (hw : ws.set q0 (a, .inr (ci, fs.set k v)) = w2) (hdg : decode cc pc = .ok (.putfield index, 3))
    (kk : ∀ (H1 : Heap) (locs1 : List Loc), ST g A s H1 locs1 w2 → W p l e R s m args below meth c H1 locs1 cells slots Q (F0 m (pc + 3) ls rest)) : W p l e R s m args below meth c H locs cells slots Q (F0 m pc ls (v :: .ref a :: rest)) := by
  subst hw
  exact va_put C.1 C.2.1 C.2.2.2.2.2.1 hin ty0 hty hnm C.2.2.2.2.1 C.2.2.2.2.2.2.2.1.1 X.1 X.2.1 X.2.2 q0 he hc k hk hlink (fun _ h => h) hfin (by rw [hty k hk, hd]) hn hfit hl hdg (fun H1 locs1 h1 h2 h3 => kk H1 locs1 ⟨h1, h2, h3⟩)
theorem kiald (C : CT g p s m args meth c own cc nL ret Ts A) (X : ST g A s H locs ws) (q0 : Nat) {a n : Nat} {f : Nat → Int32} (ha : ws[q0]? = some (a, .inl (kI g, n, .inl f))) {i : Int32} (hin : inb i n = true) (hdg : decode cc pc = .ok (.iaload, 1))
    (kk : W p l e R s m args below meth c H locs cells slots Q (F0 m (pc + 1) ls (.int (f i.toNatClampNeg) :: rest))) : W p l e R s m args below meth c H locs cells slots Q (F0 m pc ls (.int i :: .ref a :: rest)) :=
  va_iald C.1 C.2.1 C.2.2.2.2.2.2.2.1.1 X.1 q0 0 ha rfl (inb_in hin) hdg kk
theorem kiast (C : CT g p s m args meth c own cc nL ret Ts A) (X : ST g A s H locs ws) (q0 : Nat) {a n : Nat} {f : Nat → Int32} (ha : ws[q0]? = some (a, .inl (kI g, n, .inl f))) {i x : Int32} (hin : inb i n = true) (hw : ws.set q0 (a, .inl (kI g, n, .inl (upd f i.toNatClampNeg x))) = w2) (hdg : decode cc pc = .ok (.iastore, 1))
    (kk : ∀ (H1 : Heap) (locs1 : List Loc), ST g A s H1 locs1 w2 → W p l e R s m args below meth c H1 locs1 cells slots Q (F0 m (pc + 1) ls rest)) : W p l e R s m args below meth c H locs cells slots Q (F0 m pc ls (.int x :: .int i :: .ref a :: rest)) := by
  subst hw
  exact va_iast C.1 C.2.1 C.2.2.2.2.2.2.2.1.1 X.1 X.2.1 X.2.2 q0 0 ha rfl (inb_in hin) hdg (fun H1 locs1 h1 h2 h3 => kk H1 locs1 ⟨h1, h2, h3⟩)
theorem kalen (C : CT g p s m args meth c own cc nL ret Ts A) (X : ST g A s H locs ws) (q0 : Nat) {a n : Nat} {f : Nat → Int32} (ha : ws[q0]? = some (a, .inl (kI g, n, .inl f))) {v : Int32} (hv : Int32.ofNat n = v) (hdg : decode cc pc = .ok (.arraylength, 1))
    (kk : W p l e R s m args below meth c H locs cells slots Q (F0 m (pc + 1) ls (.int v :: rest))) : W p l e R s m args below meth c H locs cells slots Q (F0 m pc ls (.ref a :: rest)) :=
  va_alen C.1 C.2.1 C.2.2.2.2.2.2.2.1.1 X.1 q0 0 ha rfl hv hdg kk
-- calls
variable {y : MethodName} {bytes : ByteArray} {maxL mc ms n index : Nat} {rt : Option FieldType} {wsY : List Cond} {rm : Room} {Cn : String} {b : Nat} {As st0 st2 : List Value} {r : Option Value} {wc wr : va_W}
theorem kPc_blind {av : List Value} {sz : Nat} : FrameBlind (kPc g av sz wc) := fun a U gg mk q => ⟨q.1, q.2.1, q.2.2.1, q.2.2.2.1, kAmb.blind gg mk a q.2.2.2.2⟩
theorem kcall {A0 A1 : Nat → Prop} {av : Array Value} {free : Addr → Prop} (hr : va_Run p l e R s m args below meth c H locs cells slots mc ms (F0 m pc ls st0) rest (kQ g r w2 A1 av) free) (hS : va_S A0 s.heap H locs) (hA : ∀ q, q < H.size → A1 q → A0 q) (hf : ∀ q, free q → A0 q)
    (kk : ∀ (H1 : Heap) (locs1 : List Loc), va_P g.1 vwCl w2 H1 → va_D A1 w2 → H.size ≤ H1.size → (∀ q : Nat, q < H.size → ¬ A1 q → H1[q]? = H[q]?) → va_S A0 s.heap H1 locs1 → W p l e R s m args below meth c H1 locs1 (cells + mc) (slots + ms) Q (F0 m (pc + 3) ls (r.toList ++ rest))) : W p l e R s m args below meth c H locs cells slots Q (F0 m pc ls st0) := by
  intro T hT X
  obtain ⟨v, st₀, t, T', L, h0, X', hL, e1, e2, ⟨⟨hv, hp, hd⟩, hz, hk⟩, st⟩ := hr T hT X
  cases hv
  rw [h0] at hz hk
  obtain ⟨t2, a1, b1⟩ := kk T'.heap (locs ++ L) (by rw [e1]; exact hp) hd (by rw [e1]; exact hz) (fun q h1 h2 => by rw [e1]; exact hk q h1 h2)
    ⟨Nat.le_trans hS.1 (by rw [e1]; exact hz), fun q h1 h2 => by rw [e1, hk q (Nat.lt_of_lt_of_le h1 hS.1) (fun z => h2 (hA q (Nat.lt_of_lt_of_le h1 hS.1) z))]; exact hS.2.1 q h1 h2, fun q hq => by
      rcases List.mem_append.mp hq with h | h
      · exact hS.2.2 q h
      · exact hf _ (hL q h)⟩ T' rfl X'
  exact ⟨t2, st t2 a1, b1⟩
theorem kpre {av : List Value} {isC : List Nat} (C : CT g p s m args meth c own cc nL ret Ts A) (X : ST g A s H locs ws) (hC : isC.map (fun i => ws[i]?) = wc.map some) (hn : va_nd isC = true) (U : State) (hU : U.heap = H) (hW : s.WarmedH U.vm) : kPc g av H.size wc av.toArray U := by
  have hF := va_free X.2.1 X.2.2 C.2.2.2.2.2.2.2.2 isC hC
  refine ⟨rfl, by rw [hU], ?_, (X.2.1.sub isC hn hC).weaken (fun _ _ _ _ => trivial), C.2.2.2.2.2.2.2.1.call X.2.2 hF hW hU⟩
  rw [hU]
  intro k q hq
  have h1 : (isC.map (fun i => ws[i]?))[k]? = some (some q) := by rw [hC, List.getElem?_map, hq]; rfl
  rw [List.getElem?_map] at h1
  cases hi : isC[k]? with
  | none => rw [hi] at h1; cases h1
  | some i => rw [hi] at h1; exact X.1 i q (Option.some.inj h1)
/-- behind a call: the rest, and the callee's new world -/
theorem kjoin {isC isR : List Nat} {H1 : Heap} {locs1 : List Loc} (C : CT g p s m args meth c own cc nL ret Ts A) (X : ST g A s H locs ws) (hC : isC.map (fun i => ws[i]?) = wc.map some) (hR : isR.map (fun i => ws[i]?) = wr.map some) (hn : va_nd isR = true) (hdis : ∀ i ∈ isR, i ∉ isC)
    (hP1 : va_P g.1 vwCl w2 H1) (hD1 : va_D (va_A wc H.size) w2) (hk : ∀ q : Nat, q < H.size → ¬ va_A wc H.size q → H1[q]? = H[q]?) (hS : va_S A s.heap H1 locs1) : ST g A s H1 locs1 (wr ++ w2) := by
  have hF := va_free X.2.1 X.2.2 C.2.2.2.2.2.2.2.2 isC hC
  obtain ⟨a, b⟩ := va_join X.1 X.2.1 isC isR hC hR hn hdis hk hF hP1 hD1
  exact ⟨a, b, hS⟩
/-- an instance call, by places -/
theorem kV {isC isR : List Nat} {nx : Nat} {lv : List (Nat × Value)} {ci : Nat} {fs : List Value} {T : u_T} {N : Nat} (C : CT g p s m args meth c own cc nL ret Ts A) (X : ST g A s H locs ws) (hM : KM l y wsY rm g (.ref b :: As) wc r w2 mc ms) (cw : CallW R s args own Cn index y bytes maxL rt wsY rm mc ms n) (q0 : Nat) (he : ws[q0]? = some (b, .inr (ci, fs))) (hc : vwCl[ci]? = some (Cn, T, N)) (hC : isC.map (fun i => ws[i]?) = wc.map some) (hnC : va_nd isC = true) (hR : isR.map (fun i => ws[i]?) = wr.map some) (hn : va_nd isR = true) (hdis : ∀ i ∈ isR, i ∉ isC) (hlen : As.length = n) (hl : lv_has ls nL lv) (hst : st0 = As.reverse ++ .ref b :: rest) (hroom : (rest.map fun v => v.category).sum ≤ 8) (hst2 : r.toList ++ rest = st2) (hdg : decode cc pc = .ok (.invokevirtual index, 3)) (hf : cells + mc ≤ R.cells ∧ slots + ms ≤ R.slots)
    (kk : ∀ (H1 : Heap) (locs1 : List Loc), ST g A s H1 locs1 (wr ++ w2) → W p l e R s m args below meth c H1 locs1 (cells + mc) (slots + ms) Q (F0 m (pc + 3) ls st2)) : W p l e R s m args below meth c H locs cells slots Q (F0 m pc ls st0) := by
  subst hst2
  have hF := va_free X.2.1 X.2.2 C.2.2.2.2.2.2.2.2 isC hC
  refine kcall (va_runV (g := F0 m pc ls st0) ⟨C.1, C.2.1, C.2.2.2.1, C.2.2.2.2.1, C.2.2.2.2.2.1⟩ (hM H.size) cw ⟨kPc_blind, va_recv C.2.2.2.2.2.2.2.1.1 X.1 hc he, fun U hU hW => kpre C X hC hnC U hU hW⟩ rfl hlen hl.1 hst (lv_room (m := m) (pc := pc) (ls := ls) (rest := st0) hroom) hdg hf) X.2.2 (fun q _ h => hF q h) hF (fun H1 locs1 hP1 hD1 hz hk hS => kk H1 locs1 (kjoin C X hC hR hn hdis hP1 hD1 hk hS))
/-- a static call, by places -/
theorem kS {isC isR : List Nat} {lv : List (Nat × Value)} (C : CT g p s m args meth c own cc nL ret Ts A) (X : ST g A s H locs ws) (hM : KM l y wsY rm g As wc r w2 mc ms) (cw : CallB R s args own index y bytes maxL rt wsY rm mc ms n ∧ (Cond.static y).before args s = true) (hC : isC.map (fun i => ws[i]?) = wc.map some) (hnC : va_nd isC = true) (hR : isR.map (fun i => ws[i]?) = wr.map some) (hn : va_nd isR = true) (hdis : ∀ i ∈ isR, i ∉ isC) (hlen : As.length = n) (hl : lv_has ls nL lv) (hst : st0 = As.reverse ++ rest) (hroom : (rest.map fun v => v.category).sum ≤ 8) (hst2 : r.toList ++ rest = st2) (hdg : decode cc pc = .ok (.invokestatic index, 3)) (hf : cells + mc ≤ R.cells ∧ slots + ms ≤ R.slots)
    (kk : ∀ (H1 : Heap) (locs1 : List Loc), ST g A s H1 locs1 (wr ++ w2) → W p l e R s m args below meth c H1 locs1 (cells + mc) (slots + ms) Q (F0 m (pc + 3) ls st2)) : W p l e R s m args below meth c H locs cells slots Q (F0 m pc ls st0) := by
  subst hst2
  have hF := va_free X.2.1 X.2.2 C.2.2.2.2.2.2.2.2 isC hC
  refine kcall (va_runS (g := F0 m pc ls st0) ⟨C.1, C.2.1, C.2.2.2.1, C.2.2.2.2.1, C.2.2.2.2.2.1⟩ (hM H.size) cw ⟨kPc_blind, fun U hU hW => kpre C X hC hnC U hU hW⟩ rfl hlen hl.1 hst (lv_room (m := m) (pc := pc) (ls := ls) (rest := st0) hroom) hdg hf) X.2.2 (fun q _ h => hF q h) hF (fun H1 locs1 hP1 hD1 hz hk hS => kk H1 locs1 (kjoin C X hC hR hn hdis hP1 hD1 hk hS))
/-- a nest mate's static call, by places -/
theorem kN {isC isR : List Nat} {lv : List (Nat × Value)} {host : String} (C : CT g p s m args meth c own cc nL ret Ts A) (X : ST g A s H locs ws) (hM : KM l y wsY rm g As wc r w2 mc ms) (cw : va_CN R s args own index y host bytes maxL rt wsY rm mc ms n ∧ (Cond.static y).before args s = true ∧ True) (hC : isC.map (fun i => ws[i]?) = wc.map some) (hnC : va_nd isC = true) (hR : isR.map (fun i => ws[i]?) = wr.map some) (hn : va_nd isR = true) (hdis : ∀ i ∈ isR, i ∉ isC) (hlen : As.length = n) (hl : lv_has ls nL lv) (hst : st0 = As.reverse ++ rest) (hroom : (rest.map fun v => v.category).sum ≤ 8) (hst2 : r.toList ++ rest = st2) (hdg : decode cc pc = .ok (.invokestatic index, 3)) (hf : cells + mc ≤ R.cells ∧ slots + ms ≤ R.slots)
    (kk : ∀ (H1 : Heap) (locs1 : List Loc), ST g A s H1 locs1 (wr ++ w2) → W p l e R s m args below meth c H1 locs1 (cells + mc) (slots + ms) Q (F0 m (pc + 3) ls st2)) : W p l e R s m args below meth c H locs cells slots Q (F0 m pc ls st0) := by
  subst hst2
  have hF := va_free X.2.1 X.2.2 C.2.2.2.2.2.2.2.2 isC hC
  refine kcall (va_runSN (g := F0 m pc ls st0) ⟨C.1, C.2.1, C.2.2.2.1, C.2.2.2.2.1, C.2.2.2.2.2.1⟩ (hM H.size) cw ⟨kPc_blind, fun U hU hW => kpre C X hC hnC U hU hW⟩ rfl hlen hl.1 hst (lv_room (m := m) (pc := pc) (ls := ls) (rest := st0) hroom) hdg hf) X.2.2 (fun q _ h => hF q h) hF (fun H1 locs1 hP1 hD1 hz hk hS => kk H1 locs1 (kjoin C X hC hR hn hdis hP1 hD1 hk hS))
end KR

theorem k_all : ∀ (ws : va_W), (List.range ws.length).map (fun i => ws[i]?) = ws.map some := by
  intro ws
  apply List.ext_getElem?
  intro i
  rw [List.getElem?_map, List.getElem?_map]
  by_cases h : i < ws.length
  · rw [List.getElem?_range h, List.getElem?_eq_getElem h]; simp [List.getElem?_eq_getElem h]
  · rw [List.getElem?_eq_none (by simpa using Nat.le_of_not_lt h), List.getElem?_eq_none (Nat.le_of_not_lt h)]; rfl
theorem k_nd_range : ∀ n : Nat, va_nd (List.range n) = true := by
  have key : ∀ l : List Nat, l.Nodup → va_nd l = true := by
    intro l
    induction l with
    | nil => intro _; rfl
    | cons a l ih =>
      intro h
      rw [List.nodup_cons] at h
      simp [va_nd, h.1, ih h.2]
  intro n
  exact key _ List.nodup_range
theorem ST.sub {g : kG} {A : Nat → Prop} {s : State} {H : Heap} {locs : List Loc} {ws ws' : va_W} (X : ST g A s H locs ws) (is : List Nat) (hn : va_nd is = true) (hs : is.map (fun i => ws[i]?) = ws'.map some) : ST g A s H locs ws' := by
  refine ⟨?_, X.2.1.sub is hn hs, X.2.2⟩
  intro k q hq
  have h1 : (is.map (fun i => ws[i]?))[k]? = some (some q) := by rw [hs, List.getElem?_map, hq]; rfl
  rw [List.getElem?_map] at h1
  cases hi : is[k]? with
  | none => rw [hi] at h1; cases h1
  | some i => rw [hi] at h1; exact X.1 i q (Option.some.inj h1)
section KC
variable {p : Program} {l : Launch} {e : Env} {R : Room} {s : State} {m : MethodId} {args : Array Value} {below : List Frame} {meth : Method} {c : Code} {H : Heap} {locs : List Loc} {Q : State → Prop}
variable {g : kG} {A : Nat → Prop} {own : String} {cc : ByteArray} {nL : Nat} {ret : Option FieldType} {Ts : List Cond} {pc : Nat} {ls : Array Slot} {rest : List Value} {ws w2 w3 : va_W}
variable {y : MethodName} {bytes : ByteArray} {maxL n index : Nat} {rt : Option FieldType} {wsY : List Cond} {rm : Room} {Cn : String} {b : Nat} {As st0 st2 : List Value} {r : Option Value} {wc wr : va_W} {lv : List (Nat × Value)}
/-- an instance call that is given the whole world -/
theorem kVW {ci : Nat} {fs : List Value} {T : u_T} {N : Nat} (C : CT g p s m args meth c own cc nL ret Ts A) (X : ST g A s H locs ws) (hM : KM l y wsY rm g (.ref b :: As) ws r w2 0 0) (cw : CallW R s args own Cn index y bytes maxL rt wsY rm 0 0 n) (q0 : Nat) (he : ws[q0]? = some (b, .inr (ci, fs))) (hc : vwCl[ci]? = some (Cn, T, N)) (hlen : As.length = n) (hl : lv_has ls nL lv) (hst : st0 = As.reverse ++ .ref b :: rest) (hroom : (rest.map fun v => v.category).sum ≤ 8) (hst2 : r.toList ++ rest = st2) (hdg : decode cc pc = .ok (.invokevirtual index, 3)) (hf : 0 + 0 ≤ R.cells ∧ 0 + 0 ≤ R.slots)
    (kk : ∀ (H1 : Heap) (locs1 : List Loc), ST g A s H1 locs1 w2 → W p l e R s m args below meth c H1 locs1 0 0 Q (F0 m (pc + 3) ls st2)) : W p l e R s m args below meth c H locs 0 0 Q (F0 m pc ls st0) :=
  kV (isC := List.range ws.length) (isR := []) (wr := []) (nx := 0) C X hM cw q0 he hc (k_all ws) (k_nd_range _) rfl rfl (fun i hi => by cases hi) hlen hl hst hroom hst2 hdg hf kk
/-- an instance call on some cells -/
theorem kVF (isC isR : List Nat) {ci : Nat} {fs : List Value} {T : u_T} {N : Nat} (C : CT g p s m args meth c own cc nL ret Ts A) (X : ST g A s H locs ws) (hM : KM l y wsY rm g (.ref b :: As) wc r w2 0 0) (cw : CallW R s args own Cn index y bytes maxL rt wsY rm 0 0 n) (q0 : Nat) (he : ws[q0]? = some (b, .inr (ci, fs))) (hc : vwCl[ci]? = some (Cn, T, N)) (hC : isC.map (fun i => ws[i]?) = wc.map some) (hnC : va_nd isC = true) (hR : isR.map (fun i => ws[i]?) = (isR.filterMap (fun i => ws[i]?)).map some) (hn : va_nd isR = true) (hdis : ∀ i ∈ isR, i ∉ isC) (hlen : As.length = n) (hl : lv_has ls nL lv) (hst : st0 = As.reverse ++ .ref b :: rest) (hroom : (rest.map fun v => v.category).sum ≤ 8) (hst2 : r.toList ++ rest = st2) (hdg : decode cc pc = .ok (.invokevirtual index, 3)) (hf : 0 + 0 ≤ R.cells ∧ 0 + 0 ≤ R.slots) (is3 : List Nat) (hn3 : va_nd is3 = true) (h3 : is3.map (fun i => (isR.filterMap (fun i => ws[i]?) ++ w2)[i]?) = w3.map some)
    (kk : ∀ (H1 : Heap) (locs1 : List Loc), ST g A s H1 locs1 w3 → W p l e R s m args below meth c H1 locs1 0 0 Q (F0 m (pc + 3) ls st2)) : W p l e R s m args below meth c H locs 0 0 Q (F0 m pc ls st0) :=
  kV (isC := isC) (isR := isR) (nx := 0) C X hM cw q0 he hc hC hnC hR hn hdis hlen hl hst hroom hst2 hdg hf (fun H1 locs1 X1 => kk H1 locs1 (X1.sub is3 hn3 h3))
theorem kSF (isC isR : List Nat) (C : CT g p s m args meth c own cc nL ret Ts A) (X : ST g A s H locs ws) (hM : KM l y wsY rm g As wc r w2 0 0) (cw : CallB R s args own index y bytes maxL rt wsY rm 0 0 n ∧ (Cond.static y).before args s = true) (hC : isC.map (fun i => ws[i]?) = wc.map some) (hnC : va_nd isC = true) (hR : isR.map (fun i => ws[i]?) = (isR.filterMap (fun i => ws[i]?)).map some) (hn : va_nd isR = true) (hdis : ∀ i ∈ isR, i ∉ isC) (hlen : As.length = n) (hl : lv_has ls nL lv) (hst : st0 = As.reverse ++ rest) (hroom : (rest.map fun v => v.category).sum ≤ 8) (hst2 : r.toList ++ rest = st2) (hdg : decode cc pc = .ok (.invokestatic index, 3)) (hf : 0 + 0 ≤ R.cells ∧ 0 + 0 ≤ R.slots) (is3 : List Nat) (hn3 : va_nd is3 = true) (h3 : is3.map (fun i => (isR.filterMap (fun i => ws[i]?) ++ w2)[i]?) = w3.map some)
    (kk : ∀ (H1 : Heap) (locs1 : List Loc), ST g A s H1 locs1 w3 → W p l e R s m args below meth c H1 locs1 0 0 Q (F0 m (pc + 3) ls st2)) : W p l e R s m args below meth c H locs 0 0 Q (F0 m pc ls st0) :=
  kS (isC := isC) (isR := isR) C X hM cw hC hnC hR hn hdis hlen hl hst hroom hst2 hdg hf (fun H1 locs1 X1 => kk H1 locs1 (X1.sub is3 hn3 h3))
theorem kNF (isC isR : List Nat) {host : String} (C : CT g p s m args meth c own cc nL ret Ts A) (X : ST g A s H locs ws) (hM : KM l y wsY rm g As wc r w2 0 0) (cw : va_CN R s args own index y host bytes maxL rt wsY rm 0 0 n ∧ (Cond.static y).before args s = true ∧ True) (hC : isC.map (fun i => ws[i]?) = wc.map some) (hnC : va_nd isC = true) (hR : isR.map (fun i => ws[i]?) = (isR.filterMap (fun i => ws[i]?)).map some) (hn : va_nd isR = true) (hdis : ∀ i ∈ isR, i ∉ isC) (hlen : As.length = n) (hl : lv_has ls nL lv) (hst : st0 = As.reverse ++ rest) (hroom : (rest.map fun v => v.category).sum ≤ 8) (hst2 : r.toList ++ rest = st2) (hdg : decode cc pc = .ok (.invokestatic index, 3)) (hf : 0 + 0 ≤ R.cells ∧ 0 + 0 ≤ R.slots) (is3 : List Nat) (hn3 : va_nd is3 = true) (h3 : is3.map (fun i => (isR.filterMap (fun i => ws[i]?) ++ w2)[i]?) = w3.map some)
    (kk : ∀ (H1 : Heap) (locs1 : List Loc), ST g A s H1 locs1 w3 → W p l e R s m args below meth c H1 locs1 0 0 Q (F0 m (pc + 3) ls st2)) : W p l e R s m args below meth c H locs 0 0 Q (F0 m pc ls st0) :=
  kN (isC := isC) (isR := isR) C X hM cw hC hnC hR hn hdis hlen hl hst hroom hst2 hdg hf (fun H1 locs1 X1 => kk H1 locs1 (X1.sub is3 hn3 h3))
/-- calls without a world -/
theorem kS0 (C : CT g p s m args meth c own cc nL ret Ts A) (X : ST g A s H locs ws) (hM : KM l y wsY rm g As [] r [] 0 0) (cw : CallB R s args own index y bytes maxL rt wsY rm 0 0 n ∧ (Cond.static y).before args s = true) (hlen : As.length = n) (hl : lv_has ls nL lv) (hst : st0 = As.reverse ++ rest) (hroom : (rest.map fun v => v.category).sum ≤ 8) (hst2 : r.toList ++ rest = st2) (hdg : decode cc pc = .ok (.invokestatic index, 3)) (hf : 0 + 0 ≤ R.cells ∧ 0 + 0 ≤ R.slots)
    (kk : ∀ (H1 : Heap) (locs1 : List Loc), ST g A s H1 locs1 ws → W p l e R s m args below meth c H1 locs1 0 0 Q (F0 m (pc + 3) ls st2)) : W p l e R s m args below meth c H locs 0 0 Q (F0 m pc ls st0) :=
  kS (isC := []) (isR := List.range ws.length) (wr := ws) C X hM cw rfl rfl (k_all ws) (k_nd_range _) (fun i _ hi => by cases hi) hlen hl hst hroom hst2 hdg hf (fun H1 locs1 X1 => kk H1 locs1 (by rw [List.append_nil] at X1; exact X1))
theorem kN0 {host : String} (C : CT g p s m args meth c own cc nL ret Ts A) (X : ST g A s H locs ws) (hM : KM l y wsY rm g As [] r [] 0 0) (cw : va_CN R s args own index y host bytes maxL rt wsY rm 0 0 n ∧ (Cond.static y).before args s = true ∧ True) (hlen : As.length = n) (hl : lv_has ls nL lv) (hst : st0 = As.reverse ++ rest) (hroom : (rest.map fun v => v.category).sum ≤ 8) (hst2 : r.toList ++ rest = st2) (hdg : decode cc pc = .ok (.invokestatic index, 3)) (hf : 0 + 0 ≤ R.cells ∧ 0 + 0 ≤ R.slots)
    (kk : ∀ (H1 : Heap) (locs1 : List Loc), ST g A s H1 locs1 ws → W p l e R s m args below meth c H1 locs1 0 0 Q (F0 m (pc + 3) ls st2)) : W p l e R s m args below meth c H locs 0 0 Q (F0 m pc ls st0) :=
  kN (isC := []) (isR := List.range ws.length) (wr := ws) C X hM cw rfl rfl (k_all ws) (k_nd_range _) (fun i _ hi => by cases hi) hlen hl hst hroom hst2 hdg hf (fun H1 locs1 X1 => kk H1 locs1 (by rw [List.append_nil] at X1; exact X1))
end KC
def isb (x : Int32) : Bool := decide (x = 0 ∨ x = 1)
theorem isb_n {x : Int32} (h : isb x = true) : narrow .boolean (.int x) = .int x := by
  rcases (of_decide_eq_true h : x = 0 ∨ x = 1) with rfl | rfl <;> rfl
theorem isb_f {x : Int32} (h : isb x = true) : fits .boolean (.int x) = true := by
  rcases (of_decide_eq_true h : x = 0 ∨ x = 1) with rfl | rfl <;> rfl
section KL
variable {p : Program} {l : Launch} {e : Env} {R : Room} {s : State} {m : MethodId} {args : Array Value} {below : List Frame} {meth : Method} {c : Code} {H : Heap} {locs : List Loc} {cells slots : Nat} {Q : State → Prop}
variable {cc : ByteArray} {pc : Nat} {ls : Array Slot} {rest : List Value}
theorem cmp_gt (x y : Int64) : 0 < lg_cmp x y ↔ y < x := by
  unfold lg_cmp
  by_cases h : x > y
  · rw [if_pos h]; exact ⟨fun _ => h, fun _ => by decide⟩
  · rw [if_neg h]
    by_cases h2 : x = y
    · rw [if_pos h2]; exact ⟨fun q => absurd q (by decide), fun q => absurd q h⟩
    · rw [if_neg h2]; exact ⟨fun q => absurd q (by decide), fun q => absurd q h⟩
theorem cmp_eq (x y : Int64) : lg_cmp x y = 0 ↔ x = y := by
  unfold lg_cmp
  by_cases h : x > y
  · rw [if_pos h]; exact ⟨fun q => absurd q (by decide), fun q => absurd h (by rw [q]; exact Int64.lt_irrefl)⟩
  · rw [if_neg h]
    by_cases h2 : x = y
    · rw [if_pos h2]; exact ⟨fun _ => h2, fun _ => rfl⟩
    · rw [if_neg h2]; exact ⟨fun q => absurd q (by decide), fun q => absurd q h2⟩
theorem cmp_le (x y : Int64) : lg_cmp x y ≤ 0 ↔ x ≤ y := by
  rw [← Int32.not_lt, cmp_gt, Int64.not_lt]
theorem cmp_lt (x y : Int64) : lg_cmp x y < 0 ↔ x < y := by
  rw [← Int32.not_le, lg_cmp_ge, Int64.not_le]
theorem klcmp_le (hx : p.tables.exec = Jvm.exec) (hb : c.code = cc) {x y : Int64} {off : Int} {tgt : Nat} (hd1 : decode cc pc = .ok (.lcmp, 1)) (hdg : decode cc (pc + 1) = .ok (.ifCond .le off, 3)) (ht : ((pc + 1 : Nat) : Int) + off = (tgt : Int)) (kt : x ≤ y → W p l e R s m args below meth c H locs cells slots Q (F0 m tgt ls rest)) (kf : ¬ x ≤ y → W p l e R s m args below meth c H locs cells slots Q (F0 m (pc + 1 + 3) ls rest)) : W p l e R s m args below meth c H locs cells slots Q (F0 m pc ls (.long y :: .long x :: rest)) :=
  W.lcmp hx hb hd1 (lv_if_le hx hb hdg ht (fun q => kt ((cmp_le x y).mp q)) (fun q => kf (fun z => q ((cmp_le x y).mpr z))))
theorem klcmp_gt (hx : p.tables.exec = Jvm.exec) (hb : c.code = cc) {x y : Int64} {off : Int} {tgt : Nat} (hd1 : decode cc pc = .ok (.lcmp, 1)) (hdg : decode cc (pc + 1) = .ok (.ifCond .gt off, 3)) (ht : ((pc + 1 : Nat) : Int) + off = (tgt : Int)) (kt : y < x → W p l e R s m args below meth c H locs cells slots Q (F0 m tgt ls rest)) (kf : ¬ y < x → W p l e R s m args below meth c H locs cells slots Q (F0 m (pc + 1 + 3) ls rest)) : W p l e R s m args below meth c H locs cells slots Q (F0 m pc ls (.long y :: .long x :: rest)) :=
  W.lcmp hx hb hd1 (lv_if_gt hx hb hdg ht (fun q => kt ((cmp_gt x y).mp q)) (fun q => kf (fun z => q ((cmp_gt x y).mpr z))))
theorem klcmp_ge (hx : p.tables.exec = Jvm.exec) (hb : c.code = cc) {x y : Int64} {off : Int} {tgt : Nat} (hd1 : decode cc pc = .ok (.lcmp, 1)) (hdg : decode cc (pc + 1) = .ok (.ifCond .ge off, 3)) (ht : ((pc + 1 : Nat) : Int) + off = (tgt : Int)) (kt : y ≤ x → W p l e R s m args below meth c H locs cells slots Q (F0 m tgt ls rest)) (kf : ¬ y ≤ x → W p l e R s m args below meth c H locs cells slots Q (F0 m (pc + 1 + 3) ls rest)) : W p l e R s m args below meth c H locs cells slots Q (F0 m pc ls (.long y :: .long x :: rest)) :=
  W.lcmp hx hb hd1 (lv_if_ge hx hb hdg ht (fun q => kt ((lg_cmp_ge x y).mp q)) (fun q => kf (fun z => q ((lg_cmp_ge x y).mpr z))))
theorem klcmp_lt (hx : p.tables.exec = Jvm.exec) (hb : c.code = cc) {x y : Int64} {off : Int} {tgt : Nat} (hd1 : decode cc pc = .ok (.lcmp, 1)) (hdg : decode cc (pc + 1) = .ok (.ifCond .lt off, 3)) (ht : ((pc + 1 : Nat) : Int) + off = (tgt : Int)) (kt : x < y → W p l e R s m args below meth c H locs cells slots Q (F0 m tgt ls rest)) (kf : ¬ x < y → W p l e R s m args below meth c H locs cells slots Q (F0 m (pc + 1 + 3) ls rest)) : W p l e R s m args below meth c H locs cells slots Q (F0 m pc ls (.long y :: .long x :: rest)) :=
  W.lcmp hx hb hd1 (lv_if_lt hx hb hdg ht (fun q => kt ((cmp_lt x y).mp q)) (fun q => kf (fun z => q ((cmp_lt x y).mpr z))))
theorem klcmp_eq (hx : p.tables.exec = Jvm.exec) (hb : c.code = cc) {x y : Int64} {off : Int} {tgt : Nat} (hd1 : decode cc pc = .ok (.lcmp, 1)) (hdg : decode cc (pc + 1) = .ok (.ifCond .eq off, 3)) (ht : ((pc + 1 : Nat) : Int) + off = (tgt : Int)) (kt : x = y → W p l e R s m args below meth c H locs cells slots Q (F0 m tgt ls rest)) (kf : ¬ x = y → W p l e R s m args below meth c H locs cells slots Q (F0 m (pc + 1 + 3) ls rest)) : W p l e R s m args below meth c H locs cells slots Q (F0 m pc ls (.long y :: .long x :: rest)) :=
  W.lcmp hx hb hd1 (lv_if_eq hx hb hdg ht (fun q => kt ((cmp_eq x y).mp q)) (fun q => kf (fun z => q ((cmp_eq x y).mpr z))))
theorem klcmp_ne (hx : p.tables.exec = Jvm.exec) (hb : c.code = cc) {x y : Int64} {off : Int} {tgt : Nat} (hd1 : decode cc pc = .ok (.lcmp, 1)) (hdg : decode cc (pc + 1) = .ok (.ifCond .ne off, 3)) (ht : ((pc + 1 : Nat) : Int) + off = (tgt : Int)) (kt : ¬ x = y → W p l e R s m args below meth c H locs cells slots Q (F0 m tgt ls rest)) (kf : x = y → W p l e R s m args below meth c H locs cells slots Q (F0 m (pc + 1 + 3) ls rest)) : W p l e R s m args below meth c H locs cells slots Q (F0 m pc ls (.long y :: .long x :: rest)) :=
  W.lcmp hx hb hd1 (lv_if_ne hx hb hdg ht (fun q => kt (fun z => q ((cmp_eq x y).mpr z))) (fun q => kf ((cmp_eq x y).mp q)))
end KL
