-- the script's numbers: 'cell' reads the law's own argument, which lies outside the world
def kPcX (g : kG) (av : List Value) (sz b L : Nat) (xs : Nat → Int32) : Array Value → State → Prop := va_Pc av (fun U => U.heap.size = sz ∧ kAmb g (va_A [] sz) U U.heap ∧ va_X b L xs U U.heap ∧ b < sz)
theorem kPcX_blind {g : kG} {av : List Value} {sz b L : Nat} {xs : Nat → Int32} : FrameBlind (kPcX g av sz b L xs) := fun a U gg mk q => ⟨q.1, q.2.1, kAmb.blind gg mk a q.2.2.1, va_X.moved (u := U) (Vm.Alike.refl U.vm) q.2.2.2.1, q.2.2.2.2⟩
theorem pP0 {g : kG} {H : Heap} : va_P g.1 vwCl [] H := fun k q hq => (by cases hq)
theorem pD0 {A : Nat → Prop} : va_D A [] := ⟨fun i j p q hp => (by cases hp), fun k q hq => (by cases hq)⟩
noncomputable def fL_cell (L : Nat) (xs : Nat → Int32) (k : Int32) : Option Int32 := if Int32.ofNat L ≤ k then some (668265263 * (k + 1)) else gd (inb k L) (some (xs k.toNatClampNeg))
abbrev rL_cell : Room := { frames := 0, cells := 0, slots := 0, locals := 0 }
set_option maxRecDepth 100000 in
set_option maxHeartbeats 4000000 in
theorem kL_cell (l : Launch) (g : kG) (b L : Nat) (xs : Nat → Int32) (k r : Int32) (hm : fL_cell L xs k = some r) (sz : Nat) : Met l yL_cell wsL_cell rL_cell (kPcX g [.ref b, .int k] sz b L xs) (kQ g (some (.int r)) [] (va_A [] sz)) 0 0 (va_A [] sz) := by
  refine Met.ofW (cc := cL_cell) (maxL := 2) (ret := some .int) (by decide) rfl ?_
  intro p e s m args below meth c s₁ B hml hv
  obtain ⟨rfl, hsz, hamb, hX, hbl⟩ := hv
  subst hsz
  have hl := lv_entry [.ref b, .int k] (n := 2) (Nat.le_of_ble_eq_true rfl)
  rw [lg_entry_eq]
  generalize (lg_sl ([.ref b, .int k]) ++ List.replicate (2 - (lg_sl ([.ref b, .int k])).length) Slot.unset).toArray = ls at hl ⊢
  have hl : lv_has ls 2 [(0, .ref b), (1, .int k)] := hl
  have C : CT g p s m [.ref b, .int k].toArray meth c RL cL_cell 2 (some .int) wsL_cell (va_A [] s.heap.size) := ⟨B.exec, B.bytes, B.returns, hml, findClass_of_methodNamed B.named, atoms_spec (ws := wsL_cell) B.pre, B.notSynchronized, hamb, fun q h => Or.inr h⟩
  have X : ST g (va_A [] s.heap.size) s s.heap [] [] := ⟨pP0, pD0, va_S.rf⟩
  have hbA : ¬ va_A [] s.heap.size b := by
    rintro (⟨k, e, h⟩ | h)
    · cases h
    · exact absurd hbl (Nat.not_lt.mpr h)
  have hx := C.1
  have hb := C.2.1
  rw [fL_cell] at hm
  refine lv_iload_n hx hb dL_cell_0 rfl (lv_at hl 1 rfl) ?_
  refine lv_aload_n hx hb dL_cell_1 rfl (lv_at hl 0 rfl) ?_
  refine va_slen hx hb hX hbl hbA X.2.2 dL_cell_2 ?_
  refine lv_icmp_ge (tgt := 12) hx hb dL_cell_3 (by decide) (fun hc => ?_) (fun hc => ?_)
  · have hm := ifp hc hm
    refine lv_ldc (v := 668265263) hx hb C.2.2.2.2.1 (C.2.2.2.2.2.1 (.constant RL 7 668265263) (by decide +kernel)) dL_cell_12 ?_
    refine lv_iload_n hx hb dL_cell_14 rfl (lv_at hl 1 rfl) ?_
    refine lv_iconst (v := 1) hx hb dL_cell_15 (by decide) ?_
    refine lv_iadd hx hb dL_cell_16 ?_
    refine lv_imul hx hb dL_cell_17 ?_
    cases sm hm
    exact kiret C X dL_cell_18
  · have hm := ifn hc hm
    obtain ⟨hgi, hm⟩ := gd_t hm
    refine lv_aload_n hx hb dL_cell_6 rfl (lv_at hl 0 rfl) ?_
    refine lv_iload_n hx hb dL_cell_7 rfl (lv_at hl 1 rfl) ?_
    refine va_sld hx hb hX hbl hbA X.2.2 (inb_in hgi) dL_cell_8 ?_
    refine lv_goto (tgt := 18) hx hb dL_cell_9 (by decide) ?_
    cases sm hm
    exact kiret C X dL_cell_18
section KX9
variable {p : Program} {l : Launch} {e : Env} {R : Room} {s : State} {m : MethodId} {args : Array Value} {below : List Frame} {meth : Method} {c : Code} {H : Heap} {locs : List Loc} {cells slots : Nat} {Q : State → Prop}
variable {g : kG} {A : Nat → Prop} {own : String} {cc : ByteArray} {nL : Nat} {ret : Option FieldType} {Ts : List Cond} {pc : Nat} {ls : Array Slot} {rest st2 : List Value} {ws : va_W} {lv : List (Nat × Value)} {index b L : Nat} {xs : Nat → Int32} {k : Int32}
theorem kScell (C : CT g p s m args meth c own cc nL ret Ts A) (X : ST g A s H locs ws) (hX : va_X b L xs s s.heap) (hbl : b < s.heap.size) (hbA : ¬ A b) (r : Int32) (hm : fL_cell L xs k = some r) (cw : CallB R s args own index yL_cell cL_cell 2 (some .int) wsL_cell rL_cell 0 0 2 ∧ (Cond.static yL_cell).before args s = true) (hl : lv_has ls nL lv) {st0 : List Value} (hst : st0 = [.int k, .ref b] ++ rest) (hroom : (rest.map fun v => v.category).sum ≤ 8) (hst2 : [.int r] ++ rest = st2) (hdg : decode cc pc = .ok (.invokestatic index, 3)) (hf : cells + 0 ≤ R.cells ∧ slots + 0 ≤ R.slots)
    (kk : ∀ (H1 : Heap) (locs1 : List Loc), ST g A s H1 locs1 ws → W p l e R s m args below meth c H1 locs1 cells slots Q (F0 m (pc + 3) ls st2)) : W p l e R s m args below meth c H locs cells slots Q (F0 m pc ls st0) := by
  subst hst2
  have hF : ∀ q, va_A [] H.size q → A q := va_free (wc := []) X.2.1 X.2.2 C.2.2.2.2.2.2.2.2 [] rfl
  refine kcall (va_runS (g := F0 m pc ls st0) ⟨C.1, C.2.1, C.2.2.2.1, C.2.2.2.2.1, C.2.2.2.2.2.1⟩ (kL_cell l g b L xs k r hm H.size) cw ⟨kPcX_blind, fun U hU hW => ?_⟩ rfl (As := [.ref b, .int k]) rfl hl.1 hst (lv_room (m := m) (pc := pc) (ls := ls) (rest := st0) hroom) hdg hf) X.2.2 (fun q _ h => hF q h) hF (fun H1 locs1 hP1 hD1 hz hk hS => kk H1 locs1 ?_)
  · refine ⟨rfl, by rw [hU], C.2.2.2.2.2.2.2.1.call X.2.2 hF hW hU, ?_, Nat.lt_of_lt_of_le hbl X.2.2.1⟩
    rw [hU]
    exact (hX.kept (X.2.2.2.1 b hbl hbA)).moved hW.alike
  · have := kjoin (isC := []) (isR := List.range ws.length) (wr := ws) C X rfl (k_all ws) (k_nd_range _) (fun i _ hi => by cases hi) hP1 hD1 hk hS
    rw [List.append_nil] at this
    exact this
end KX9
