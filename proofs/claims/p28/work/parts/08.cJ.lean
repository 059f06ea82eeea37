def ad0 (x : Nat) (r : Nat → Nat) : Nat → Nat := fun j => match j with | 0 => x | j + 1 => r (j + 1)
def adL (l : List Nat) : Nat → Nat := fun j => l.getD j 0
def ShNew : ShS := (fun _ => S0, kf0, 0, 0, 0)
def T0 : TS := (fun _ => 0, 0, 0, 0, 0, 0, 0)
def P0 : PS := (fun _ => 0, fun _ => 0, fun _ => 0)
def H0s : HS := (fun _ => none, 0, 0)
def N0s : NS := fun _ => none
def r0 : Nat → Nat → Nat := fun _ _ => 0
def adD (x : Nat) (D : Nat → Nat → Nat) : Nat → Nat → Nat := fun i => match i with | 0 => ad0 x (D 0) | i + 1 => D (i + 1)
section KI2
variable {p : Program} {l : Launch} {e : Env} {R : Room} {s : State} {m : MethodId} {args : Array Value} {below : List Frame} {meth : Method} {c : Code} {H : Heap} {locs : List Loc} {cells slots : Nat} {Q : State → Prop}
variable {g : kG} {A : Nat → Prop} {cc : ByteArray} {nL : Nat} {ret : Option FieldType} {Ts : List Cond} {pc : Nat} {ls : Array Slot} {rest : List Value} {ws w3 : va_W} {lv : List (Nat × Value)} {index : Nat}
theorem kgetsN (C : CT g p s m args meth c RX1 cc nL ret Ts A) (X : ST g A s H locs ws) (hdg : decode cc pc = .ok (.getstatic 22, 3)) (kk : W p l e R s m args below meth c H locs cells slots Q (F0 m (pc + 3) ls (.ref g.2.2.1 :: rest))) : W p l e R s m args below meth c H locs cells slots Q (F0 m pc ls rest) :=
  va_getsN C.1 C.2.1 C.2.2.2.2.2.2.2.1.2.2.1.1.1 X.2.2 C.2.2.2.2.1 (va_Nw.use (A := args) rfl C.2.2.2.2.2.2.2.1.2.2.2.2.2.2.2.1) (fun _ h => h) hdg kk
theorem kNameI : "[" ++ FieldType.int.toString = "[I" := by decide +kernel
theorem kclone (C : CT g p s m args meth c RX1 cc nL ret Ts A) (X : ST g A s H locs ws) (hl : lv_has ls nL lv) (hw : (Cond.methodLink RX1 index ⟨"[I", "clone", "()Ljava/lang/Object;"⟩) ∈ Ts ∧ (Cond.sameMethod "[I" "java/lang/Object" "clone" "()Ljava/lang/Object;") ∈ Ts ∧ (Cond.native ⟨"java/lang/Object", "clone", "()Ljava/lang/Object;"⟩) ∈ Ts ∧ (Cond.instanceMethod ⟨"java/lang/Object", "clone", "()Ljava/lang/Object;"⟩) ∈ Ts ∧ (Cond.selects "[I" ⟨"[I", "clone", "()Ljava/lang/Object;"⟩ ⟨"java/lang/Object", "clone", "()Ljava/lang/Object;"⟩) ∈ Ts) (hfr : 1 ≤ R.frames) (hlo : (rest.map fun v => v.category).sum + 14 ≤ R.locals) (hcells : cells + 1 ≤ R.cells) (hslots : slots + 4 ≤ R.slots) (hdg : decode cc pc = .ok (.invokevirtual index, 3))
    (kk : ∀ (q : Nat) (H1 : Heap), ST g A s H1 locs (ws ++ [(q, .inl (kI g, 4, .inl kf0))]) → W p l e R s m args below meth c H1 locs (cells + 1) (slots + 4) Q (F0 m (pc + 3) ls (.ref q :: rest))) : W p l e R s m args below meth c H locs cells slots Q (F0 m pc ls (.ref g.2.2.1 :: rest)) := by
  obtain ⟨cell, h1, h2, h3, h4, h5, h6⟩ := C.2.2.2.2.2.2.2.1.2.2.2.2.1
  have hts := C.2.2.2.2.2.1
  have hH : H[g.2.2.1]? = some cell := by rw [X.2.2.2.1 _ (Array.getElem?_eq_some_iff.mp h1).1 h6]; exact h1
  have hsz : cell.slots.size = 4 := by rw [h5]; exact arrV_size _ _ _
  have hnm : s.vm.findClass "[I" = some (kI g) := by rw [← kNameI]; exact (C.2.2.2.2.2.2.2.1.1.2 0 _ rfl).2
  have hcl : va_Nw (.castable "[I" "java/lang/Cloneable") s := C.2.2.2.2.2.2.2.1.2.1.2.1 ("[I", "java/lang/Cloneable") (by decide +kernel)
  have hcellE : ({ cls := cell.cls, slots := cell.slots } : Cell) = vp_cell (kI g) (4, .inl kf0) := by
    rw [h4, h5]
    rfl
  obtain ⟨c0, t0', f1, f2, f3⟩ := Cond.castable_spec (va_Nw.use (A := args) rfl hcl)
  cases hnm.symm.trans f1
  have hAr : ArrOfT s (kI g) .int := (C.2.2.2.2.2.2.2.1.1.2 0 _ rfl).1
  intro T hT Y
  have hcellT : T.heap[g.2.2.1]? = some cell := by rw [hT]; exact hH
  obtain ⟨-, kA, hkA, comp, hkind⟩ := State.isArrayOf_alike Y.warmed.alike (hAr 0 (fun _ => .null))
  obtain ⟨-, kS, hkS, compS, hkindS⟩ := hAr 0 (fun _ => .null)
  obtain ⟨vm', X', st⟩ := Y.cloneArray C.1 C.2.2.2.2.1 (hts _ hw.1) (hts _ hw.2.1) (hts _ hw.2.2.1) (hts _ hw.2.2.2.1) (hts _ hw.2.2.2.2) (a := g.2.2.1) (cell := cell) hcellT h2 h3 (by rw [h4]; exact hnm) f2 (by rw [h4]; exact f3)
    (fun i v hv => by
      rw [h4]
      have hk' : T.vm.classes[kI g]? = some kA := hkA
      rw [h5] at hv
      have hf := va_fit (ty := .int) (F := kF0) (fun i _ => rfl) i v hv
      simpa [State.fitsSlot, State.slotType?, hk', hkind] using hf)
    (g := F0 m pc ls (.ref g.2.2.1 :: rest)) rfl (hl.1.trans C.2.2.2.1.symm) rfl (by rw [C.2.1]; exact hdg) hfr (by show 2 * 0 + _ + 14 ≤ _; omega) hcells (by rw [hsz]; exact hslots) (hloader := by rw [h4]; exact Vm.clonesLoader_of_array hkS hkindS)
  rw [hcellE, hsz] at X'
  generalize hH1 : H.push (vp_cell (kI g) (4, .inl kf0)) = H1
  have z1 : H1.size = H.size + 1 := by rw [← hH1, Array.size_push]
  have e1 : H1[H.size]? = some (vp_cell (kI g) (4, .inl kf0)) := by rw [← hH1, Array.getElem?_push_size]
  have o1 : ∀ q : Nat, q < H.size → H1[q]? = H[q]? := fun q hq => by rw [← hH1, Array.getElem?_push, if_neg (Nat.ne_of_lt hq)]
  have hk : ∀ (k : Nat) (y : Nat × va_E), ws[k]? = some y → H1[y.1]? = H[y.1]? := fun k y hy => o1 y.1 ((X.1 k y hy).lt)
  obtain ⟨t, b1, b2⟩ := kk H.size H1 ⟨(X.1.kept hk).app (fun k y hy => by
      have hz : k < 1 := (List.getElem?_eq_some_iff.mp hy).1
      rw [show k = 0 by omega] at hy
      cases hy
      exact e1), X.2.1.push X.1 rfl (C.2.2.2.2.2.2.2.2 _ X.2.2.1), ⟨Nat.le_trans X.2.2.1 (by omega), fun y h1 h2 => (o1 y (Nat.lt_of_lt_of_le h1 X.2.2.1)).trans (X.2.2.2.1 y h1 h2), X.2.2.2.2⟩⟩
    ((T.setVm vm').pushCell (vp_cell (kI g) (4, .inl kf0))) (by rw [← hH1, ← hT]; rfl) X'
  refine ⟨t, st t ?_, b2⟩
  rw [hcellE, hT]
  exact b1
theorem kcastI {a : Nat} {x : vp_A} (C : CT g p s m args meth c RX1 cc nL ret Ts A) (X : ST g A s H locs ws) (q0 : Nat) (ha : ws[q0]? = some (a, .inl (kI g, x))) (hw : (Cond.classLink RX1 index "[I") ∈ Ts) (hdg : decode cc pc = .ok (.checkcast index, 3))
    (kk : W p l e R s m args below meth c H locs cells slots Q (F0 m (pc + 3) ls (.ref a :: rest))) : W p l e R s m args below meth c H locs cells slots Q (F0 m pc ls (.ref a :: rest)) :=
  va_castA C.1 C.2.1 C.2.2.2.2.1 (C.2.2.2.2.2.1 _ hw) X.1 q0 ha (by rw [← kNameI]; exact (C.2.2.2.2.2.2.2.1.1.2 0 _ rfl).2) hdg kk
end KI2
abbrev rX1_init : Room := { frames := 2, cells := 12, slots := 383, locals := 34 }
theorem in_X1_init : ∀ w ∈ u_ws RX1 TX1 6, w ∈ wsX1_init := by decide +kernel
theorem in_X1_init3 : ∀ w ∈ u_ws RX3 TX3 3, w ∈ wsX1_init := by decide +kernel
theorem cw_X1_init_X3_17 {p : Program} {s : State} {m : MethodId} {args : Array Value} {meth : Method} {c : Code} {g : kG} {A : Nat → Prop} {nl : Nat} {rt : Option FieldType} (C : CT g p s m args meth c RX1 cX1_init nl rt wsX1_init A) : CallB rX1_init s args RX1 17 yX3_init cX3_init 1 none wsX3_init rX3_init 1 72 0 ∧ yX3_init.name = "<init>" ∧ (Cond.instanceMethod yX3_init).before args s = true := ⟨callB_of 0 C.2.2.2.2.2.1 gX1_init_X3_init rfl rfl rfl (C.2.2.2.2.2.1 _ (by decide +kernel)) (C.2.2.2.2.2.1 _ (by decide +kernel)) (by decide +kernel) ⟨(Nat.le_of_ble_eq_true rfl), (Nat.le_of_ble_eq_true rfl)⟩, rfl, C.2.2.2.2.2.1 _ (by decide +kernel)⟩
set_option maxRecDepth 100000 in
set_option maxHeartbeats 4000000 in
theorem kX1_init (l : Launch) (g : kG) (x : Nat) : KE (S := Nat → Nat) l yX1_init wsX1_init rX1_init g [.ref x] [(x, .inr (1, [.null, .null, .null, .int 0, .int 0, .int 0]))] none (fun r => wSh g (ad0 x r) ShNew) 12 383 := by
  refine KE.of (nL := 2) (by decide) rfl (Nat.le_of_ble_eq_true rfl) ?_
  intro p e s m args below meth c A ls C hnI X hl
  have C : CT g p s m args meth c RX1 cX1_init 2 none wsX1_init A := C
  have hx := C.1
  have hb := C.2.1
  have hl : lv_has ls 2 [(0, .ref x)] := hl
  refine lv_aload_n hx hb dX1_init_0 rfl (lv_at hl 0 rfl) ?_
  refine kobj C hl (by decide +kernel) (Nat.le_of_ble_eq_true rfl) (Nat.le_of_ble_eq_true rfl) dX1_init_1 ?_
  refine lv_aload_n hx hb dX1_init_4 rfl (lv_at hl 0 rfl) ?_
  refine lv_iconst (v := 4) hx hb dX1_init_5 (by decide) ?_
  refine knewS 4 C X (by decide +kernel) (by decide) (by decide) (by decide) (Nat.le_of_ble_eq_true rfl) (Nat.le_of_ble_eq_true rfl) dX1_init_6 (fun q H X => ?_)
  refine kputF hnI C X 0 (ci := 1) rfl rfl in_X1_init tyX1_ok nmX1 0 (by decide) (by decide +kernel) rfl rfl (ty := .array (.object RX3)) rfl rfl rfl (Nat.le_of_ble_eq_true rfl) (w3 := [(x, .inr (1, [.ref q, .null, .null, .int 0, .int 0, .int 0])), (q, .inl (kSt g, 4, .inr (.inr (.inr (.inr (fun _ => none))))))]) rfl dX1_init_9 (fun H locs X => ?_)
  refine lv_iconst (v := 0) hx hb dX1_init_12 (by decide) ?_
  refine lv_istore_n (lv' := [(1, .int 0), (0, .ref x)]) hx hb dX1_init_13 rfl hl (by decide) rfl (fun ls hl => ?_)
  refine lv_iload_n hx hb dX1_init_14 rfl (lv_at hl 0 rfl) ?_
  refine lv_aload_n hx hb dX1_init_15 rfl (lv_at hl 1 rfl) ?_
  refine kget C X 0 (ci := 1) rfl rfl in_X1_init 0 (by decide) (C.2.2.2.2.2.1 _ (by decide +kernel)) (v := .ref q) rfl dX1_init_16 ?_
  refine kalenS C X 1 rfl (v := 4) rfl dX1_init_19 ?_
  refine lv_icmp_ge (tgt := 42) hx hb dX1_init_20 (by decide) (fun hc => absurd hc (by decide)) (fun _ => ?_)
  refine lv_aload_n hx hb dX1_init_23 rfl (lv_at hl 1 rfl) ?_
  refine kget C X 0 (ci := 1) rfl rfl in_X1_init 0 (by decide) (C.2.2.2.2.2.1 _ (by decide +kernel)) (v := .ref q) rfl dX1_init_24 ?_
  refine lv_iload_n hx hb dX1_init_27 rfl (lv_at hl 0 rfl) ?_
  refine knew (ci := 3) [.null, .int 0, .int 0] C X rfl in_X1_init3 tyX3_ok (by decide +kernel) (by decide +kernel) (Nat.le_of_ble_eq_true rfl) (Nat.le_of_ble_eq_true rfl) dX1_init_28 (fun s0 H X => ?_)
  refine lv_dup hx hb dX1_init_31 rfl ?_
  refine keI (As := []) ([(x, .inr (1, [.ref q, .null, .null, .int 0, .int 0, .int 0])), (q, .inl (kSt g, 4, .inr (.inr (.inr (.inr (fun _ => none))))))]) (List.perm_append_comm) C X (kX3_init l g s0) (cw_X1_init_X3_17 C) rfl hl rfl (Nat.le_of_ble_eq_true rfl) dX1_init_32 ⟨(Nat.le_of_ble_eq_true rfl), (Nat.le_of_ble_eq_true rfl)⟩ (w4 := fun n0 => [(x, .inr (1, [.ref q, .null, .null, .int 0, .int 0, .int 0])), (q, .inl (kSt g, 4, .inr (.inr (.inr (.inr (fun _ => none))))))] ++ wS g (ad2 s0 n0) S0) (fun _ => List.Perm.refl _) (fun n0 H locs X => ?_)
  refine kastS C X 1 2 rfl rfl (i := 0) (by decide) (w3 := [(x, .inr (1, [.ref q, .null, .null, .int 0, .int 0, .int 0])), (q, .inl (kSt g, 4, .inr (.inr (.inr (.inr (va_up (fun _ => none) 0 (some s0)))))))] ++ wS g (ad2 s0 n0) S0) rfl dX1_init_35 (fun H locs X => ?_)
  refine lv_iinc (v := 1) (lv' := [(1, .int 1), (0, .ref x)]) hx hb dX1_init_36 hl (k := 0) rfl (by decide) (by decide) rfl (fun ls hl => ?_)
  refine lv_goto (tgt := 14) hx hb dX1_init_39 (by decide) ?_
  refine lv_iload_n hx hb dX1_init_14 rfl (lv_at hl 0 rfl) ?_
  refine lv_aload_n hx hb dX1_init_15 rfl (lv_at hl 1 rfl) ?_
  refine kget C X 0 (ci := 1) rfl rfl in_X1_init 0 (by decide) (C.2.2.2.2.2.1 _ (by decide +kernel)) (v := .ref q) rfl dX1_init_16 ?_
  refine kalenS C X 1 rfl (v := 4) rfl dX1_init_19 ?_
  refine lv_icmp_ge (tgt := 42) hx hb dX1_init_20 (by decide) (fun hc => absurd hc (by decide)) (fun _ => ?_)
  refine lv_aload_n hx hb dX1_init_23 rfl (lv_at hl 1 rfl) ?_
  refine kget C X 0 (ci := 1) rfl rfl in_X1_init 0 (by decide) (C.2.2.2.2.2.1 _ (by decide +kernel)) (v := .ref q) rfl dX1_init_24 ?_
  refine lv_iload_n hx hb dX1_init_27 rfl (lv_at hl 0 rfl) ?_
  refine knew (ci := 3) [.null, .int 0, .int 0] C X rfl in_X1_init3 tyX3_ok (by decide +kernel) (by decide +kernel) (Nat.le_of_ble_eq_true rfl) (Nat.le_of_ble_eq_true rfl) dX1_init_28 (fun s1 H X => ?_)
  refine lv_dup hx hb dX1_init_31 rfl ?_
  refine keI (As := []) ([(x, .inr (1, [.ref q, .null, .null, .int 0, .int 0, .int 0])), (q, .inl (kSt g, 4, .inr (.inr (.inr (.inr (va_up (fun _ => none) 0 (some s0)))))))] ++ wS g (ad2 s0 n0) S0) (List.perm_append_comm) C X (kX3_init l g s1) (cw_X1_init_X3_17 C) rfl hl rfl (Nat.le_of_ble_eq_true rfl) dX1_init_32 ⟨(Nat.le_of_ble_eq_true rfl), (Nat.le_of_ble_eq_true rfl)⟩ (w4 := fun n1 => [(x, .inr (1, [.ref q, .null, .null, .int 0, .int 0, .int 0])), (q, .inl (kSt g, 4, .inr (.inr (.inr (.inr (va_up (fun _ => none) 0 (some s0)))))))] ++ wS g (ad2 s0 n0) S0 ++ wS g (ad2 s1 n1) S0) (fun _ => List.Perm.refl _) (fun n1 H locs X => ?_)
  refine kastS C X 1 4 rfl rfl (i := 1) (by decide) (w3 := [(x, .inr (1, [.ref q, .null, .null, .int 0, .int 0, .int 0])), (q, .inl (kSt g, 4, .inr (.inr (.inr (.inr (va_up (va_up (fun _ => none) 0 (some s0)) 1 (some s1)))))))] ++ wS g (ad2 s0 n0) S0 ++ wS g (ad2 s1 n1) S0) rfl dX1_init_35 (fun H locs X => ?_)
  refine lv_iinc (v := 2) (lv' := [(1, .int 2), (0, .ref x)]) hx hb dX1_init_36 hl (k := 0) rfl (by decide) (by decide) rfl (fun ls hl => ?_)
  refine lv_goto (tgt := 14) hx hb dX1_init_39 (by decide) ?_
  refine lv_iload_n hx hb dX1_init_14 rfl (lv_at hl 0 rfl) ?_
  refine lv_aload_n hx hb dX1_init_15 rfl (lv_at hl 1 rfl) ?_
  refine kget C X 0 (ci := 1) rfl rfl in_X1_init 0 (by decide) (C.2.2.2.2.2.1 _ (by decide +kernel)) (v := .ref q) rfl dX1_init_16 ?_
  refine kalenS C X 1 rfl (v := 4) rfl dX1_init_19 ?_
  refine lv_icmp_ge (tgt := 42) hx hb dX1_init_20 (by decide) (fun hc => absurd hc (by decide)) (fun _ => ?_)
  refine lv_aload_n hx hb dX1_init_23 rfl (lv_at hl 1 rfl) ?_
  refine kget C X 0 (ci := 1) rfl rfl in_X1_init 0 (by decide) (C.2.2.2.2.2.1 _ (by decide +kernel)) (v := .ref q) rfl dX1_init_24 ?_
  refine lv_iload_n hx hb dX1_init_27 rfl (lv_at hl 0 rfl) ?_
  refine knew (ci := 3) [.null, .int 0, .int 0] C X rfl in_X1_init3 tyX3_ok (by decide +kernel) (by decide +kernel) (Nat.le_of_ble_eq_true rfl) (Nat.le_of_ble_eq_true rfl) dX1_init_28 (fun s2 H X => ?_)
  refine lv_dup hx hb dX1_init_31 rfl ?_
  refine keI (As := []) ([(x, .inr (1, [.ref q, .null, .null, .int 0, .int 0, .int 0])), (q, .inl (kSt g, 4, .inr (.inr (.inr (.inr (va_up (va_up (fun _ => none) 0 (some s0)) 1 (some s1)))))))] ++ wS g (ad2 s0 n0) S0 ++ wS g (ad2 s1 n1) S0) (List.perm_append_comm) C X (kX3_init l g s2) (cw_X1_init_X3_17 C) rfl hl rfl (Nat.le_of_ble_eq_true rfl) dX1_init_32 ⟨(Nat.le_of_ble_eq_true rfl), (Nat.le_of_ble_eq_true rfl)⟩ (w4 := fun n2 => [(x, .inr (1, [.ref q, .null, .null, .int 0, .int 0, .int 0])), (q, .inl (kSt g, 4, .inr (.inr (.inr (.inr (va_up (va_up (fun _ => none) 0 (some s0)) 1 (some s1)))))))] ++ wS g (ad2 s0 n0) S0 ++ wS g (ad2 s1 n1) S0 ++ wS g (ad2 s2 n2) S0) (fun _ => List.Perm.refl _) (fun n2 H locs X => ?_)
  refine kastS C X 1 6 rfl rfl (i := 2) (by decide) (w3 := [(x, .inr (1, [.ref q, .null, .null, .int 0, .int 0, .int 0])), (q, .inl (kSt g, 4, .inr (.inr (.inr (.inr (va_up (va_up (va_up (fun _ => none) 0 (some s0)) 1 (some s1)) 2 (some s2)))))))] ++ wS g (ad2 s0 n0) S0 ++ wS g (ad2 s1 n1) S0 ++ wS g (ad2 s2 n2) S0) rfl dX1_init_35 (fun H locs X => ?_)
  refine lv_iinc (v := 3) (lv' := [(1, .int 3), (0, .ref x)]) hx hb dX1_init_36 hl (k := 0) rfl (by decide) (by decide) rfl (fun ls hl => ?_)
  refine lv_goto (tgt := 14) hx hb dX1_init_39 (by decide) ?_
  refine lv_iload_n hx hb dX1_init_14 rfl (lv_at hl 0 rfl) ?_
  refine lv_aload_n hx hb dX1_init_15 rfl (lv_at hl 1 rfl) ?_
  refine kget C X 0 (ci := 1) rfl rfl in_X1_init 0 (by decide) (C.2.2.2.2.2.1 _ (by decide +kernel)) (v := .ref q) rfl dX1_init_16 ?_
  refine kalenS C X 1 rfl (v := 4) rfl dX1_init_19 ?_
  refine lv_icmp_ge (tgt := 42) hx hb dX1_init_20 (by decide) (fun hc => absurd hc (by decide)) (fun _ => ?_)
  refine lv_aload_n hx hb dX1_init_23 rfl (lv_at hl 1 rfl) ?_
  refine kget C X 0 (ci := 1) rfl rfl in_X1_init 0 (by decide) (C.2.2.2.2.2.1 _ (by decide +kernel)) (v := .ref q) rfl dX1_init_24 ?_
  refine lv_iload_n hx hb dX1_init_27 rfl (lv_at hl 0 rfl) ?_
  refine knew (ci := 3) [.null, .int 0, .int 0] C X rfl in_X1_init3 tyX3_ok (by decide +kernel) (by decide +kernel) (Nat.le_of_ble_eq_true rfl) (Nat.le_of_ble_eq_true rfl) dX1_init_28 (fun s3 H X => ?_)
  refine lv_dup hx hb dX1_init_31 rfl ?_
  refine keI (As := []) ([(x, .inr (1, [.ref q, .null, .null, .int 0, .int 0, .int 0])), (q, .inl (kSt g, 4, .inr (.inr (.inr (.inr (va_up (va_up (va_up (fun _ => none) 0 (some s0)) 1 (some s1)) 2 (some s2)))))))] ++ wS g (ad2 s0 n0) S0 ++ wS g (ad2 s1 n1) S0 ++ wS g (ad2 s2 n2) S0) (List.perm_append_comm) C X (kX3_init l g s3) (cw_X1_init_X3_17 C) rfl hl rfl (Nat.le_of_ble_eq_true rfl) dX1_init_32 ⟨(Nat.le_of_ble_eq_true rfl), (Nat.le_of_ble_eq_true rfl)⟩ (w4 := fun n3 => [(x, .inr (1, [.ref q, .null, .null, .int 0, .int 0, .int 0])), (q, .inl (kSt g, 4, .inr (.inr (.inr (.inr (va_up (va_up (va_up (fun _ => none) 0 (some s0)) 1 (some s1)) 2 (some s2)))))))] ++ wS g (ad2 s0 n0) S0 ++ wS g (ad2 s1 n1) S0 ++ wS g (ad2 s2 n2) S0 ++ wS g (ad2 s3 n3) S0) (fun _ => List.Perm.refl _) (fun n3 H locs X => ?_)
  refine kastS C X 1 8 rfl rfl (i := 3) (by decide) (w3 := [(x, .inr (1, [.ref q, .null, .null, .int 0, .int 0, .int 0])), (q, .inl (kSt g, 4, .inr (.inr (.inr (.inr (va_up (va_up (va_up (va_up (fun _ => none) 0 (some s0)) 1 (some s1)) 2 (some s2)) 3 (some s3)))))))] ++ wS g (ad2 s0 n0) S0 ++ wS g (ad2 s1 n1) S0 ++ wS g (ad2 s2 n2) S0 ++ wS g (ad2 s3 n3) S0) rfl dX1_init_35 (fun H locs X => ?_)
  refine lv_iinc (v := 4) (lv' := [(1, .int 4), (0, .ref x)]) hx hb dX1_init_36 hl (k := 0) rfl (by decide) (by decide) rfl (fun ls hl => ?_)
  refine lv_goto (tgt := 14) hx hb dX1_init_39 (by decide) ?_
  refine lv_iload_n hx hb dX1_init_14 rfl (lv_at hl 0 rfl) ?_
  refine lv_aload_n hx hb dX1_init_15 rfl (lv_at hl 1 rfl) ?_
  refine kget C X 0 (ci := 1) rfl rfl in_X1_init 0 (by decide) (C.2.2.2.2.2.1 _ (by decide +kernel)) (v := .ref q) rfl dX1_init_16 ?_
  refine kalenS C X 1 rfl (v := 4) rfl dX1_init_19 ?_
  refine lv_icmp_ge (tgt := 42) hx hb dX1_init_20 (by decide) (fun _ => ?_) (fun hc => absurd (by decide) hc)
  refine lv_aload_n hx hb dX1_init_42 rfl (lv_at hl 1 rfl) ?_
  refine knew (ci := 3) [.null, .int 0, .int 0] C X rfl in_X1_init3 tyX3_ok (by decide +kernel) (by decide +kernel) (Nat.le_of_ble_eq_true rfl) (Nat.le_of_ble_eq_true rfl) dX1_init_43 (fun s4 H X => ?_)
  refine lv_dup hx hb dX1_init_46 rfl ?_
  refine keI (As := []) ([(x, .inr (1, [.ref q, .null, .null, .int 0, .int 0, .int 0])), (q, .inl (kSt g, 4, .inr (.inr (.inr (.inr (va_up (va_up (va_up (va_up (fun _ => none) 0 (some s0)) 1 (some s1)) 2 (some s2)) 3 (some s3)))))))] ++ wS g (ad2 s0 n0) S0 ++ wS g (ad2 s1 n1) S0 ++ wS g (ad2 s2 n2) S0 ++ wS g (ad2 s3 n3) S0) (List.perm_append_comm) C X (kX3_init l g s4) (cw_X1_init_X3_17 C) rfl hl rfl (Nat.le_of_ble_eq_true rfl) dX1_init_47 ⟨(Nat.le_of_ble_eq_true rfl), (Nat.le_of_ble_eq_true rfl)⟩ (w4 := fun n4 => [(x, .inr (1, [.ref q, .null, .null, .int 0, .int 0, .int 0])), (q, .inl (kSt g, 4, .inr (.inr (.inr (.inr (va_up (va_up (va_up (va_up (fun _ => none) 0 (some s0)) 1 (some s1)) 2 (some s2)) 3 (some s3)))))))] ++ wS g (ad2 s0 n0) S0 ++ wS g (ad2 s1 n1) S0 ++ wS g (ad2 s2 n2) S0 ++ wS g (ad2 s3 n3) S0 ++ wS g (ad2 s4 n4) S0) (fun _ => List.Perm.refl _) (fun n4 H locs X => ?_)
  refine kputF hnI C X 0 (ci := 1) rfl rfl in_X1_init tyX1_ok nmX1 1 (by decide) (by decide +kernel) rfl rfl (ty := .object RX3) rfl rfl rfl (Nat.le_of_ble_eq_true rfl) (w3 := [(x, .inr (1, [.ref q, .ref s4, .null, .int 0, .int 0, .int 0])), (q, .inl (kSt g, 4, .inr (.inr (.inr (.inr (va_up (va_up (va_up (va_up (fun _ => none) 0 (some s0)) 1 (some s1)) 2 (some s2)) 3 (some s3)))))))] ++ wS g (ad2 s0 n0) S0 ++ wS g (ad2 s1 n1) S0 ++ wS g (ad2 s2 n2) S0 ++ wS g (ad2 s3 n3) S0 ++ wS g (ad2 s4 n4) S0) rfl dX1_init_50 (fun H locs X => ?_)
  refine lv_aload_n hx hb dX1_init_53 rfl (lv_at hl 1 rfl) ?_
  refine kgetsN C X dX1_init_54 ?_
  refine kclone C X hl (by decide +kernel) (Nat.le_of_ble_eq_true rfl) (Nat.le_of_ble_eq_true rfl) (Nat.le_of_ble_eq_true rfl) (Nat.le_of_ble_eq_true rfl) dX1_init_57 (fun v H X => ?_)
  refine kcastI C X 12 rfl (by decide +kernel) dX1_init_60 ?_
  refine kputF hnI C X 0 (ci := 1) rfl rfl in_X1_init tyX1_ok nmX1 2 (by decide) (by decide +kernel) rfl rfl (ty := .array .int) rfl rfl rfl (Nat.le_of_ble_eq_true rfl) (w3 := [(x, .inr (1, [.ref q, .ref s4, .ref v, .int 0, .int 0, .int 0])), (q, .inl (kSt g, 4, .inr (.inr (.inr (.inr (va_up (va_up (va_up (va_up (fun _ => none) 0 (some s0)) 1 (some s1)) 2 (some s2)) 3 (some s3)))))))] ++ wS g (ad2 s0 n0) S0 ++ wS g (ad2 s1 n1) S0 ++ wS g (ad2 s2 n2) S0 ++ wS g (ad2 s3 n3) S0 ++ wS g (ad2 s4 n4) S0 ++ [(v, .inl (kI g, 4, .inl kf0))]) rfl dX1_init_63 (fun H locs X => ?_)
  have X := X.cell 1 (e1 := .inl (kSt g, 4, .inr (.inr (.inr (.inr (shRow (ad0 x (adL [x, q, v, s0, n0, s1, n1, s2, n2, s3, n3, s4, n4])))))))) rfl (fun h => by
    show _ = some (vp_cell _ _)
    refine Eq.trans h (congrArg some (kcell ?_))
    intro j hj
    match j, hj with
    | 0, _ => rfl
    | 1, _ => rfl
    | 2, _ => rfl
    | 3, _ => rfl
    | j + 4, hj => exact absurd hj (by omega))
  have X := X.sub (ws' := wSh g (ad0 x (adL [x, q, v, s0, n0, s1, n1, s2, n2, s3, n3, s4, n4])) ShNew) [0, 1, 12, 2, 3, 4, 5, 6, 7, 8, 9, 10, 11] (by decide) rfl
  exact kevret (w2 := fun r => wSh g (ad0 x r) ShNew) (adL [x, q, v, s0, n0, s1, n1, s2, n2, s3, n3, s4, n4]) C X dX1_init_66
abbrev rX0_init : Room := { frames := 1, cells := 1, slots := 6, locals := 12 }
theorem in_X0_init : ∀ w ∈ u_ws RX0 TX0 3, w ∈ wsX0_init := by decide +kernel
set_option maxRecDepth 100000 in
set_option maxHeartbeats 4000000 in
theorem kX0_init (l : Launch) (g : kG) (x : Nat) : KE (S := Nat) l yX0_init wsX0_init rX0_init g [.ref x] [(x, .inr (0, [.null, .int 0, .int 0]))] none (fun q => wH g (ad2 x q) r0 H0s) 1 6 := by
  refine KE.of (nL := 1) (by decide) rfl (Nat.le_of_ble_eq_true rfl) ?_
  intro p e s m args below meth c A ls C hnI X hl
  have C : CT g p s m args meth c RX0 cX0_init 1 none wsX0_init A := C
  have hx := C.1
  have hb := C.2.1
  have hl : lv_has ls 1 [(0, .ref x)] := hl
  refine lv_aload_n hx hb dX0_init_0 rfl (lv_at hl 0 rfl) ?_
  refine kobj C hl (by decide +kernel) (Nat.le_of_ble_eq_true rfl) (Nat.le_of_ble_eq_true rfl) dX0_init_1 ?_
  refine lv_aload_n hx hb dX0_init_4 rfl (lv_at hl 0 rfl) ?_
  refine lv_bipush (v := 6) hx hb dX0_init_5 (by decide) ?_
  refine knewH 6 C X (by decide +kernel) (by decide) (by decide) (by decide) (Nat.le_of_ble_eq_true rfl) (Nat.le_of_ble_eq_true rfl) dX0_init_7 (fun q H X => ?_)
  refine kputF hnI C X 0 (ci := 0) rfl rfl in_X0_init tyX0_ok nmX0 0 (by decide) (by decide +kernel) rfl rfl (ty := .array (.object RX1)) rfl rfl rfl (Nat.le_of_ble_eq_true rfl) (w3 := wH g (ad2 x q) r0 H0s) rfl dX0_init_10 (fun H locs X => ?_)
  exact kevret (w2 := fun q => wH g (ad2 x q) r0 H0s) q C X dX0_init_13
abbrev rX2_init : Room := { frames := 1, cells := 3, slots := 624, locals := 12 }
theorem in_X2_init : ∀ w ∈ u_ws RX2 TX2 3, w ∈ wsX2_init := by decide +kernel
set_option maxRecDepth 100000 in
set_option maxHeartbeats 4000000 in
theorem kX2_init (l : Launch) (g : kG) (x : Nat) : KE (S := Nat → Nat) l yX2_init wsX2_init rX2_init g [.ref x] [(x, .inr (2, [.null, .null, .null]))] none (fun r => wP g (ad0 x r) P0) 3 624 := by
  refine KE.of (nL := 1) (by decide) rfl (Nat.le_of_ble_eq_true rfl) ?_
  intro p e s m args below meth c A ls C hnI X hl
  have C : CT g p s m args meth c RX2 cX2_init 1 none wsX2_init A := C
  have hx := C.1
  have hb := C.2.1
  have hl : lv_has ls 1 [(0, .ref x)] := hl
  refine lv_aload_n hx hb dX2_init_0 rfl (lv_at hl 0 rfl) ?_
  refine kobj C hl (by decide +kernel) (Nat.le_of_ble_eq_true rfl) (Nat.le_of_ble_eq_true rfl) dX2_init_1 ?_
  refine lv_aload_n hx hb dX2_init_4 rfl (lv_at hl 0 rfl) ?_
  refine lv_sipush (v := 576) hx hb dX2_init_5 (by decide) ?_
  refine knewi 576 C X (by decide +kernel) (by decide) (by decide) (by decide) (Nat.le_of_ble_eq_true rfl) (Nat.le_of_ble_eq_true rfl) dX2_init_8 (fun q0 H X => ?_)
  refine kputF hnI C X 0 (ci := 2) rfl rfl in_X2_init tyX2_ok nmX2 0 (by decide) (by decide +kernel) rfl rfl (ty := .array .int) rfl rfl rfl (Nat.le_of_ble_eq_true rfl) (w3 := [(x, .inr (2, [.ref q0, .null, .null])), (q0, .inl (kI g, 576, .inl (fun _ => 0)))]) rfl dX2_init_10 (fun H locs X => ?_)
  refine lv_aload_n hx hb dX2_init_13 rfl (lv_at hl 0 rfl) ?_
  refine lv_bipush (v := 24) hx hb dX2_init_14 (by decide) ?_
  refine knewi 24 C X (by decide +kernel) (by decide) (by decide) (by decide) (Nat.le_of_ble_eq_true rfl) (Nat.le_of_ble_eq_true rfl) dX2_init_16 (fun q1 H X => ?_)
  refine kputF hnI C X 0 (ci := 2) rfl rfl in_X2_init tyX2_ok nmX2 1 (by decide) (by decide +kernel) rfl rfl (ty := .array .int) rfl rfl rfl (Nat.le_of_ble_eq_true rfl) (w3 := [(x, .inr (2, [.ref q0, .ref q1, .null])), (q0, .inl (kI g, 576, .inl (fun _ => 0))), (q1, .inl (kI g, 24, .inl (fun _ => 0)))]) rfl dX2_init_18 (fun H locs X => ?_)
  refine lv_aload_n hx hb dX2_init_21 rfl (lv_at hl 0 rfl) ?_
  refine lv_bipush (v := 24) hx hb dX2_init_22 (by decide) ?_
  refine knewi 24 C X (by decide +kernel) (by decide) (by decide) (by decide) (Nat.le_of_ble_eq_true rfl) (Nat.le_of_ble_eq_true rfl) dX2_init_24 (fun q2 H X => ?_)
  refine kputF hnI C X 0 (ci := 2) rfl rfl in_X2_init tyX2_ok nmX2 2 (by decide) (by decide +kernel) rfl rfl (ty := .array .int) rfl rfl rfl (Nat.le_of_ble_eq_true rfl) (w3 := [(x, .inr (2, [.ref q0, .ref q1, .ref q2])), (q0, .inl (kI g, 576, .inl (fun _ => 0))), (q1, .inl (kI g, 24, .inl (fun _ => 0))), (q2, .inl (kI g, 24, .inl (fun _ => 0)))]) rfl dX2_init_26 (fun H locs X => ?_)
  exact kevret (w2 := fun r => wP g (ad0 x r) P0) (adL [x, q0, q1, q2]) C X dX2_init_29
abbrev rX4_init : Room := { frames := 2, cells := 3, slots := 145, locals := 32 }
theorem in_X4_init : ∀ w ∈ u_ws RX4 TX4 8, w ∈ wsX4_init := by decide +kernel
theorem in_X4_init3 : ∀ w ∈ u_ws RX3 TX3 3, w ∈ wsX4_init := by decide +kernel
theorem cw_X4_init_X3_17 {p : Program} {s : State} {m : MethodId} {args : Array Value} {meth : Method} {c : Code} {g : kG} {A : Nat → Prop} {nl : Nat} {rt : Option FieldType} (C : CT g p s m args meth c RX4 cX4_init nl rt wsX4_init A) : CallB rX4_init s args RX4 17 yX3_init cX3_init 1 none wsX3_init rX3_init 1 72 0 ∧ yX3_init.name = "<init>" ∧ (Cond.instanceMethod yX3_init).before args s = true := ⟨callB_of 0 C.2.2.2.2.2.1 gX4_init_X3_init rfl rfl rfl (C.2.2.2.2.2.1 _ (by decide +kernel)) (C.2.2.2.2.2.1 _ (by decide +kernel)) (by decide +kernel) ⟨(Nat.le_of_ble_eq_true rfl), (Nat.le_of_ble_eq_true rfl)⟩, rfl, C.2.2.2.2.2.1 _ (by decide +kernel)⟩
set_option maxRecDepth 100000 in
set_option maxHeartbeats 4000000 in
theorem kX4_init (l : Launch) (g : kG) (x : Nat) : KE (S := Nat × Nat × Nat) l yX4_init wsX4_init rX4_init g [.ref x] [(x, .inr (4, [.null, .int 0, .null, .int 0, .int 0, .int 0, .int 0, .int 0]))] none (fun r => wT g (ad2 x r.1) r.2.1 T0 ++ wS g (ad2 r.2.1 r.2.2) S0) 3 145 := by
  refine KE.of (nL := 1) (by decide) rfl (Nat.le_of_ble_eq_true rfl) ?_
  intro p e s m args below meth c A ls C hnI X hl
  have C : CT g p s m args meth c RX4 cX4_init 1 none wsX4_init A := C
  have hx := C.1
  have hb := C.2.1
  have hl : lv_has ls 1 [(0, .ref x)] := hl
  refine lv_aload_n hx hb dX4_init_0 rfl (lv_at hl 0 rfl) ?_
  refine kobj C hl (by decide +kernel) (Nat.le_of_ble_eq_true rfl) (Nat.le_of_ble_eq_true rfl) dX4_init_1 ?_
  refine lv_aload_n hx hb dX4_init_4 rfl (lv_at hl 0 rfl) ?_
  refine lv_bipush (v := 70) hx hb dX4_init_5 (by decide) ?_
  refine knewi 70 C X (by decide +kernel) (by decide) (by decide) (by decide) (Nat.le_of_ble_eq_true rfl) (Nat.le_of_ble_eq_true rfl) dX4_init_7 (fun q H X => ?_)
  refine kputF hnI C X 0 (ci := 4) rfl rfl in_X4_init tyX4_ok nmX4 0 (by decide) (by decide +kernel) rfl rfl (ty := .array .int) rfl rfl rfl (Nat.le_of_ble_eq_true rfl) (w3 := [(x, .inr (4, [.ref q, .int 0, .null, .int 0, .int 0, .int 0, .int 0, .int 0])), (q, .inl (kI g, 70, .inl (fun _ => 0)))]) rfl dX4_init_9 (fun H locs X => ?_)
  refine lv_aload_n hx hb dX4_init_12 rfl (lv_at hl 0 rfl) ?_
  refine knew (ci := 3) [.null, .int 0, .int 0] C X rfl in_X4_init3 tyX3_ok (by decide +kernel) (by decide +kernel) (Nat.le_of_ble_eq_true rfl) (Nat.le_of_ble_eq_true rfl) dX4_init_13 (fun t H X => ?_)
  refine lv_dup hx hb dX4_init_16 rfl ?_
  refine keI (As := []) [(x, .inr (4, [.ref q, .int 0, .null, .int 0, .int 0, .int 0, .int 0, .int 0])), (q, .inl (kI g, 70, .inl (fun _ => 0)))] (List.perm_append_comm) C X (kX3_init l g t) (cw_X4_init_X3_17 C) rfl hl rfl (Nat.le_of_ble_eq_true rfl) dX4_init_17 ⟨(Nat.le_of_ble_eq_true rfl), (Nat.le_of_ble_eq_true rfl)⟩ (w4 := fun n => [(x, .inr (4, [.ref q, .int 0, .null, .int 0, .int 0, .int 0, .int 0, .int 0])), (q, .inl (kI g, 70, .inl (fun _ => 0)))] ++ wS g (ad2 t n) S0) (fun _ => List.Perm.refl _) (fun n H locs X => ?_)
  refine kputF hnI C X 0 (ci := 4) rfl rfl in_X4_init tyX4_ok nmX4 2 (by decide) (by decide +kernel) rfl rfl (ty := .object RX3) rfl rfl rfl (Nat.le_of_ble_eq_true rfl) (w3 := [(x, .inr (4, [.ref q, .int 0, .ref t, .int 0, .int 0, .int 0, .int 0, .int 0])), (q, .inl (kI g, 70, .inl (fun _ => 0)))] ++ wS g (ad2 t n) S0) rfl dX4_init_20 (fun H locs X => ?_)
  exact kevret (w2 := fun r : Nat × Nat × Nat => wT g (ad2 x r.1) r.2.1 T0 ++ wS g (ad2 r.2.1 r.2.2) S0) (q, t, n) C X dX4_init_23
abbrev rX5_init : Room := { frames := 3, cells := 24, slots := 1180, locals := 60 }
theorem in_X5_init : ∀ w ∈ u_ws RX5 TX5 5, w ∈ wsX5_init := by decide +kernel
theorem in_X5_init0 : ∀ w ∈ u_ws RX0 TX0 3, w ∈ wsX5_init := by decide +kernel
theorem in_X5_init1 : ∀ w ∈ u_ws RX1 TX1 6, w ∈ wsX5_init := by decide +kernel
theorem in_X5_init2 : ∀ w ∈ u_ws RX2 TX2 3, w ∈ wsX5_init := by decide +kernel
theorem in_X5_init4 : ∀ w ∈ u_ws RX4 TX4 8, w ∈ wsX5_init := by decide +kernel
theorem cw_X5_init_X1_9 {p : Program} {s : State} {m : MethodId} {args : Array Value} {meth : Method} {c : Code} {g : kG} {A : Nat → Prop} {nl : Nat} {rt : Option FieldType} (C : CT g p s m args meth c RX5 cX5_init nl rt wsX5_init A) : CallB rX5_init s args RX5 9 yX1_init cX1_init 2 none wsX1_init rX1_init 12 383 0 ∧ yX1_init.name = "<init>" ∧ (Cond.instanceMethod yX1_init).before args s = true := ⟨callB_of 0 C.2.2.2.2.2.1 gX5_init_X1_init rfl rfl rfl (C.2.2.2.2.2.1 _ (by decide +kernel)) (C.2.2.2.2.2.1 _ (by decide +kernel)) (by decide +kernel) ⟨(Nat.le_of_ble_eq_true rfl), (Nat.le_of_ble_eq_true rfl)⟩, rfl, C.2.2.2.2.2.1 _ (by decide +kernel)⟩
theorem cw_X5_init_X0_18 {p : Program} {s : State} {m : MethodId} {args : Array Value} {meth : Method} {c : Code} {g : kG} {A : Nat → Prop} {nl : Nat} {rt : Option FieldType} (C : CT g p s m args meth c RX5 cX5_init nl rt wsX5_init A) : CallB rX5_init s args RX5 18 yX0_init cX0_init 1 none wsX0_init rX0_init 1 6 0 ∧ yX0_init.name = "<init>" ∧ (Cond.instanceMethod yX0_init).before args s = true := ⟨callB_of 0 C.2.2.2.2.2.1 gX5_init_X0_init rfl rfl rfl (C.2.2.2.2.2.1 _ (by decide +kernel)) (C.2.2.2.2.2.1 _ (by decide +kernel)) (by decide +kernel) ⟨(Nat.le_of_ble_eq_true rfl), (Nat.le_of_ble_eq_true rfl)⟩, rfl, C.2.2.2.2.2.1 _ (by decide +kernel)⟩
theorem cw_X5_init_X4_29 {p : Program} {s : State} {m : MethodId} {args : Array Value} {meth : Method} {c : Code} {g : kG} {A : Nat → Prop} {nl : Nat} {rt : Option FieldType} (C : CT g p s m args meth c RX5 cX5_init nl rt wsX5_init A) : CallB rX5_init s args RX5 29 yX4_init cX4_init 1 none wsX4_init rX4_init 3 145 0 ∧ yX4_init.name = "<init>" ∧ (Cond.instanceMethod yX4_init).before args s = true := ⟨callB_of 0 C.2.2.2.2.2.1 gX5_init_X4_init rfl rfl rfl (C.2.2.2.2.2.1 _ (by decide +kernel)) (C.2.2.2.2.2.1 _ (by decide +kernel)) (by decide +kernel) ⟨(Nat.le_of_ble_eq_true rfl), (Nat.le_of_ble_eq_true rfl)⟩, rfl, C.2.2.2.2.2.1 _ (by decide +kernel)⟩
theorem cw_X5_init_X2_36 {p : Program} {s : State} {m : MethodId} {args : Array Value} {meth : Method} {c : Code} {g : kG} {A : Nat → Prop} {nl : Nat} {rt : Option FieldType} (C : CT g p s m args meth c RX5 cX5_init nl rt wsX5_init A) : CallB rX5_init s args RX5 36 yX2_init cX2_init 1 none wsX2_init rX2_init 3 624 0 ∧ yX2_init.name = "<init>" ∧ (Cond.instanceMethod yX2_init).before args s = true := ⟨callB_of 0 C.2.2.2.2.2.1 gX5_init_X2_init rfl rfl rfl (C.2.2.2.2.2.1 _ (by decide +kernel)) (C.2.2.2.2.2.1 _ (by decide +kernel)) (by decide +kernel) ⟨(Nat.le_of_ble_eq_true rfl), (Nat.le_of_ble_eq_true rfl)⟩, rfl, C.2.2.2.2.2.1 _ (by decide +kernel)⟩
set_option maxRecDepth 100000 in
set_option maxHeartbeats 4000000 in
theorem kX5_init (l : Launch) (g : kG) (x : Nat) : KE (S := Nat → Nat → Nat) l yX5_init wsX5_init rX5_init g [.ref x] [(x, .inr (5, [.null, .null, .null, .null, .null]))] none (fun D => wB g (adD x D) (r0, r0) ShNew T0 S0 P0 H0s N0s) 24 1180 := by
  refine KE.of (nL := 1) (by decide) rfl (Nat.le_of_ble_eq_true rfl) ?_
  intro p e s m args below meth c A ls C hnI X hl
  have C : CT g p s m args meth c RX5 cX5_init 1 none wsX5_init A := C
  have hx := C.1
  have hb := C.2.1
  have hl : lv_has ls 1 [(0, .ref x)] := hl
  refine lv_aload_n hx hb dX5_init_0 rfl (lv_at hl 0 rfl) ?_
  refine kobj C hl (by decide +kernel) (Nat.le_of_ble_eq_true rfl) (Nat.le_of_ble_eq_true rfl) dX5_init_1 ?_
  refine lv_aload_n hx hb dX5_init_4 rfl (lv_at hl 0 rfl) ?_
  refine knew (ci := 1) [.null, .null, .null, .int 0, .int 0, .int 0] C X rfl in_X5_init1 tyX1_ok (by decide +kernel) (by decide +kernel) (Nat.le_of_ble_eq_true rfl) (Nat.le_of_ble_eq_true rfl) dX5_init_5 (fun h1 H X => ?_)
  refine lv_dup hx hb dX5_init_8 rfl ?_
  refine keI (As := []) ([(x, .inr (5, [.null, .null, .null, .null, .null]))]) (List.perm_append_comm) C X (kX1_init l g h1) (cw_X5_init_X1_9 C) rfl hl rfl (Nat.le_of_ble_eq_true rfl) dX5_init_9 ⟨(Nat.le_of_ble_eq_true rfl), (Nat.le_of_ble_eq_true rfl)⟩ (w4 := fun d1 => [(x, .inr (5, [.null, .null, .null, .null, .null]))] ++ wSh g (ad0 h1 d1) ShNew) (fun _ => List.Perm.refl _) (fun d1 H locs X => ?_)
  refine kputF hnI C X 0 (ci := 5) rfl rfl in_X5_init tyX5_ok nmX5 0 (by decide) (by decide +kernel) rfl rfl (ty := .object RX1) rfl rfl rfl (Nat.le_of_ble_eq_true rfl) (w3 := [(x, .inr (5, [.ref h1, .null, .null, .null, .null]))] ++ wSh g (ad0 h1 d1) ShNew) rfl dX5_init_12 (fun H locs X => ?_)
  refine lv_aload_n hx hb dX5_init_15 rfl (lv_at hl 0 rfl) ?_
  refine knew (ci := 0) [.null, .int 0, .int 0] C X rfl in_X5_init0 tyX0_ok (by decide +kernel) (by decide +kernel) (Nat.le_of_ble_eq_true rfl) (Nat.le_of_ble_eq_true rfl) dX5_init_16 (fun h5 H X => ?_)
  refine lv_dup hx hb dX5_init_19 rfl ?_
  refine keI (As := []) ([(x, .inr (5, [.ref h1, .null, .null, .null, .null]))] ++ wSh g (ad0 h1 d1) ShNew) (List.perm_append_comm) C X (kX0_init l g h5) (cw_X5_init_X0_18 C) rfl hl rfl (Nat.le_of_ble_eq_true rfl) dX5_init_20 ⟨(Nat.le_of_ble_eq_true rfl), (Nat.le_of_ble_eq_true rfl)⟩ (w4 := fun d5 => [(x, .inr (5, [.ref h1, .null, .null, .null, .null]))] ++ wSh g (ad0 h1 d1) ShNew ++ wH g (ad2 h5 d5) r0 H0s) (fun _ => List.Perm.refl _) (fun d5 H locs X => ?_)
  refine kputF hnI C X 0 (ci := 5) rfl rfl in_X5_init tyX5_ok nmX5 1 (by decide) (by decide +kernel) rfl rfl (ty := .object RX0) rfl rfl rfl (Nat.le_of_ble_eq_true rfl) (w3 := [(x, .inr (5, [.ref h1, .ref h5, .null, .null, .null]))] ++ wSh g (ad0 h1 d1) ShNew ++ wH g (ad2 h5 d5) r0 H0s) rfl dX5_init_23 (fun H locs X => ?_)
  refine lv_aload_n hx hb dX5_init_26 rfl (lv_at hl 0 rfl) ?_
  refine lv_iconst (v := 2) hx hb dX5_init_27 (by decide) ?_
  refine knewH 2 C X (by decide +kernel) (by decide) (by decide) (by decide) (Nat.le_of_ble_eq_true rfl) (Nat.le_of_ble_eq_true rfl) dX5_init_28 (fun n0 H X => ?_)
  refine kputF hnI C X 0 (ci := 5) rfl rfl in_X5_init tyX5_ok nmX5 2 (by decide) (by decide +kernel) rfl rfl (ty := .array (.object RX1)) rfl rfl rfl (Nat.le_of_ble_eq_true rfl) (w3 := [(x, .inr (5, [.ref h1, .ref h5, .ref n0, .null, .null]))] ++ wSh g (ad0 h1 d1) ShNew ++ wH g (ad2 h5 d5) r0 H0s ++ [(n0, .inl (kSh g, 2, .inr (.inr (.inr (.inr (fun _ => none))))))]) rfl dX5_init_31 (fun H locs X => ?_)
  refine lv_aload_n hx hb dX5_init_34 rfl (lv_at hl 0 rfl) ?_
  refine knew (ci := 4) [.null, .int 0, .null, .int 0, .int 0, .int 0, .int 0, .int 0] C X rfl in_X5_init4 tyX4_ok (by decide +kernel) (by decide +kernel) (Nat.le_of_ble_eq_true rfl) (Nat.le_of_ble_eq_true rfl) dX5_init_35 (fun h2 H X => ?_)
  refine lv_dup hx hb dX5_init_38 rfl ?_
  refine keI (As := []) ([(x, .inr (5, [.ref h1, .ref h5, .ref n0, .null, .null]))] ++ wSh g (ad0 h1 d1) ShNew ++ wH g (ad2 h5 d5) r0 H0s ++ [(n0, .inl (kSh g, 2, .inr (.inr (.inr (.inr (fun _ => none))))))]) (List.perm_append_comm) C X (kX4_init l g h2) (cw_X5_init_X4_29 C) rfl hl rfl (Nat.le_of_ble_eq_true rfl) dX5_init_39 ⟨(Nat.le_of_ble_eq_true rfl), (Nat.le_of_ble_eq_true rfl)⟩ (w4 := fun d2 => [(x, .inr (5, [.ref h1, .ref h5, .ref n0, .null, .null]))] ++ wSh g (ad0 h1 d1) ShNew ++ wH g (ad2 h5 d5) r0 H0s ++ [(n0, .inl (kSh g, 2, .inr (.inr (.inr (.inr (fun _ => none))))))] ++ (wT g (ad2 h2 d2.1) d2.2.1 T0 ++ wS g (ad2 d2.2.1 d2.2.2) S0)) (fun _ => List.Perm.refl _) (fun d2 H locs X => ?_)
  refine kputF hnI C X 0 (ci := 5) rfl rfl in_X5_init tyX5_ok nmX5 3 (by decide) (by decide +kernel) rfl rfl (ty := .object RX4) rfl rfl rfl (Nat.le_of_ble_eq_true rfl) (w3 := [(x, .inr (5, [.ref h1, .ref h5, .ref n0, .ref h2, .null]))] ++ wSh g (ad0 h1 d1) ShNew ++ wH g (ad2 h5 d5) r0 H0s ++ [(n0, .inl (kSh g, 2, .inr (.inr (.inr (.inr (fun _ => none))))))] ++ (wT g (ad2 h2 d2.1) d2.2.1 T0 ++ wS g (ad2 d2.2.1 d2.2.2) S0)) rfl dX5_init_42 (fun H locs X => ?_)
  refine lv_aload_n hx hb dX5_init_45 rfl (lv_at hl 0 rfl) ?_
  refine knew (ci := 2) [.null, .null, .null] C X rfl in_X5_init2 tyX2_ok (by decide +kernel) (by decide +kernel) (Nat.le_of_ble_eq_true rfl) (Nat.le_of_ble_eq_true rfl) dX5_init_46 (fun h4 H X => ?_)
  refine lv_dup hx hb dX5_init_49 rfl ?_
  refine keI (As := []) ([(x, .inr (5, [.ref h1, .ref h5, .ref n0, .ref h2, .null]))] ++ wSh g (ad0 h1 d1) ShNew ++ wH g (ad2 h5 d5) r0 H0s ++ [(n0, .inl (kSh g, 2, .inr (.inr (.inr (.inr (fun _ => none))))))] ++ (wT g (ad2 h2 d2.1) d2.2.1 T0 ++ wS g (ad2 d2.2.1 d2.2.2) S0)) (List.perm_append_comm) C X (kX2_init l g h4) (cw_X5_init_X2_36 C) rfl hl rfl (Nat.le_of_ble_eq_true rfl) dX5_init_50 ⟨(Nat.le_of_ble_eq_true rfl), (Nat.le_of_ble_eq_true rfl)⟩ (w4 := fun d4 => [(x, .inr (5, [.ref h1, .ref h5, .ref n0, .ref h2, .null]))] ++ wSh g (ad0 h1 d1) ShNew ++ wH g (ad2 h5 d5) r0 H0s ++ [(n0, .inl (kSh g, 2, .inr (.inr (.inr (.inr (fun _ => none))))))] ++ (wT g (ad2 h2 d2.1) d2.2.1 T0 ++ wS g (ad2 d2.2.1 d2.2.2) S0) ++ wP g (ad0 h4 d4) P0) (fun _ => List.Perm.refl _) (fun d4 H locs X => ?_)
  refine kputF hnI C X 0 (ci := 5) rfl rfl in_X5_init tyX5_ok nmX5 4 (by decide) (by decide +kernel) rfl rfl (ty := .object RX2) rfl rfl rfl (Nat.le_of_ble_eq_true rfl) (w3 := [(x, .inr (5, [.ref h1, .ref h5, .ref n0, .ref h2, .ref h4]))] ++ wSh g (ad0 h1 d1) ShNew ++ wH g (ad2 h5 d5) r0 H0s ++ [(n0, .inl (kSh g, 2, .inr (.inr (.inr (.inr (fun _ => none))))))] ++ (wT g (ad2 h2 d2.1) d2.2.1 T0 ++ wS g (ad2 d2.2.1 d2.2.2) S0) ++ wP g (ad0 h4 d4) P0) rfl dX5_init_53 (fun H locs X => ?_)
  have X := X.sub (ws' := wB g (adD x (fun i => [adL [x, n0], ad0 h1 d1, ad2 h2 d2.1, ad2 d2.2.1 d2.2.2, ad0 h4 d4, ad2 h5 d5].getD i (fun _ => 0))) (r0, r0) ShNew T0 S0 P0 H0s N0s) [0, 1, 2, 3, 4, 5, 6, 7, 8, 9, 10, 11, 12, 13, 17, 18, 19, 20, 21, 22, 23, 24, 14, 15, 16] (by decide) rfl
  exact kevret (w2 := fun D => wB g (adD x D) (r0, r0) ShNew T0 S0 P0 H0s N0s) (fun i => [adL [x, n0], ad0 h1 d1, ad2 h2 d2.1, ad2 d2.2.1 d2.2.2, ad0 h4 d4, ad2 h5 d5].getD i (fun _ => 0)) C X dX5_init_56
