/-! what the start gives: the ambient of the law -/
section AM
variable {s : State} {args : Array Value}
abbrev amA (s : State) : Nat → Prop := fun q : Nat => s.heap.size ≤ q
theorem am_no : ∀ a : Nat, a < s.heap.size → ¬ amA s a := fun _ h => Nat.not_le.mpr h
theorem am_i (h : (Cond.arrayClass .int).before args s = true) : ∃ cA, ArrOfT s cA .int ∧ va_RA s cA .int := by
  obtain ⟨cA, kA, comp, h1, h2, h3⟩ := Cond.arrayClass_spec h
  exact ⟨cA, fun n z => ⟨fun k h => (by cases h), kA, h2, comp, h3⟩, h1⟩
theorem am_o {C : String} (h : (Cond.arrayOver (.object C)).before args s = true) : ∃ cA, ArrOfT s cA (.object C) ∧ va_RA s cA (.object C) := by
  obtain ⟨comp, cA, kA, h1, h2, h3, h4, h5⟩ := Cond.arrayOver_spec h
  exact ⟨cA, fun n z => ⟨fun k h => (by cases h), kA, h3, comp, h4⟩, kA, comp, h3, h4, h1, h5⟩
theorem am_w : Cond.arrayClass .int ∈ lw_tbl ∧ Cond.arrayOver (.object RX1) ∈ lw_tbl ∧ Cond.arrayOver (.object RX3) ∈ lw_tbl := by decide +kernel
theorem am_in : Cond.instantiable RX0 3 ∈ lw_tbl ∧ Cond.instantiable RX1 6 ∈ lw_tbl ∧ Cond.instantiable RX2 3 ∈ lw_tbl ∧ Cond.instantiable RX3 3 ∈ lw_tbl ∧ Cond.instantiable RX4 8 ∈ lw_tbl ∧ Cond.instantiable RX5 5 ∈ lw_tbl := by decide +kernel
theorem am_K (hts : ∀ w ∈ lw_tbl, w.before args s = true) : ∃ (D : va_G) (I : ClassId × ClassId × ClassId × ClassId × ClassId), ∀ st : Nat × Nat × Nat, va_K D vwCl (kT (D, I, st)) s := by
  obtain ⟨i0, i1, i2, i3, i4, i5⟩ := am_in
  obtain ⟨w1, w4, w5⟩ := am_w
  obtain ⟨c0, f0, h0⟩ := u_known hts inX0 (hts _ i0)
  obtain ⟨c1, f1, h1⟩ := u_known hts inX1 (hts _ i1)
  obtain ⟨c2, f2, h2⟩ := u_known hts inX2 (hts _ i2)
  obtain ⟨c3, f3, h3⟩ := u_known hts inX3 (hts _ i3)
  obtain ⟨c4, f4, h4⟩ := u_known hts inX4 (hts _ i4)
  obtain ⟨c5, f5, h5⟩ := u_known hts inX5 (hts _ i5)
  obtain ⟨a1, b1⟩ := am_i (hts _ w1)
  obtain ⟨a3, b3⟩ := am_o (hts _ w4)
  obtain ⟨a4, b4⟩ := am_o (hts _ w5)
  refine ⟨(fun c => match c with | 0 => c0 | 1 => c1 | 2 => c2 | 3 => c3 | 4 => c4 | _ => c5, fun c => match c with | 0 => f0 | 1 => f1 | 2 => f2 | 3 => f3 | 4 => f4 | _ => f5), (a1, a1, a3, a4, a1), fun st => ⟨fun c q hq => ?_, fun k q hq => ?_⟩⟩
  · match c, hq with
    | 0, hq => cases hq; exact h0
    | 1, hq => cases hq; exact h1
    | 2, hq => cases hq; exact h2
    | 3, hq => cases hq; exact h3
    | 4, hq => cases hq; exact h4
    | 5, hq => cases hq; exact h5
    | c + 6, hq => cases hq
  · match k, hq with
    | 0, hq => cases hq; exact b1
    | 1, hq => cases hq; exact b1
    | 2, hq => cases hq; exact b3
    | 3, hq => cases hq; exact b4
    | 4, hq => cases hq; exact b1
    | k + 5, hq => cases hq
theorem am_n1 : ∀ q ∈ kNests, Cond.methodLinkNest q.1 q.2.1 q.2.2.1 q.2.2.2 ∈ lw_tbl := by decide +kernel
theorem am_n2 : ∀ q ∈ kCasts, Cond.castable q.1 q.2 ∈ lw_tbl := by decide +kernel
theorem am_n3 : ∀ y ∈ kDecl, Cond.declares y ∈ lw_tbl := by decide +kernel
theorem am_nest (hts : ∀ w ∈ lw_tbl, w.before args s = true) : kNest s := ⟨fun q hq => va_Nw.of (A := args) rfl (hts _ (am_n1 q hq)), fun q hq => va_Nw.of (A := args) rfl (hts _ (am_n2 q hq)), fun y hy => va_Nw.of (A := args) rfl (hts _ (am_n3 y hy))⟩
theorem am_len {tm : Term} {t : Nat} {v : Value} (ht : tm.eval args s none [] s = some (.ref t)) (hv : (Term.length tm).eval args s none [] s = some v) : ∃ cell : Cell, s.heap[t]? = some cell ∧ cell.slots.size < 2 ^ 31 ∧ v = .int cell.slots.size.toInt32 := by
  obtain ⟨a, cell, h1, harr, h3⟩ := Term.length_spec hv
  cases ht.symm.trans h1
  refine ⟨cell, (State.arrayAt?_spec harr).1, ?_, h3⟩
  simp only [Term.eval, ht, harr, Option.bind_eq_bind, Option.bind_some] at hv
  by_cases hlt : cell.slots.size < 2147483648
  · exact hlt
  · simp [hlt] at hv
theorem am_T {tm : Term} {v0 v1 v2 v3 : Int32} {f : Nat → Value} (harr : (Cond.arrayOf tm .int).before args s = true) (hlen : (Cond.eq (.length tm) (.int 4)).before args s = true) (h0 : (Cond.eq (.elem tm (.int 0)) (.int v0)).before args s = true) (h1 : (Cond.eq (.elem tm (.int 1)) (.int v1)).before args s = true) (h2 : (Cond.eq (.elem tm (.int 2)) (.int v2)).before args s = true) (h3 : (Cond.eq (.elem tm (.int 3)) (.int v3)).before args s = true) (hf : f 0 = .int v0 ∧ f 1 = .int v1 ∧ f 2 = .int v2 ∧ f 3 = .int v3) : ∃ t : Nat, tm.eval args s none [] s = some (.ref t) ∧ va_T .int t 4 f (amA s) s s.heap := by
  obtain ⟨e0, e1, e2, e3⟩ := hf
  refine va_Tof (by decide) harr (va_eqt hlen) (fun j hj => ?_) am_no
  match j, hj with
  | 0, _ => rw [e0]; exact va_eqt h0
  | 1, _ => rw [e1]; exact va_eqt h1
  | 2, _ => rw [e2]; exact va_eqt h2
  | 3, _ => rw [e3]; exact va_eqt h3
theorem am_fv {tm : Term} {t : Nat} {f : Nat → Value} {cI : ClassId} (hcI : s.vm.findClass "[I" = some cI) (hx : (Cond.exactly tm "[I").before args s = true) (hlen : (Cond.eq (.length tm) (.int 4)).before args s = true) (ht : tm.eval args s none [] s = some (.ref t)) (hT : va_T .int t 4 f (amA s) s s.heap) : ∃ cell : Cell, s.heap[t]? = some cell ∧ (∀ k, cell.vm ≠ .statics k) ∧ cell.vm ≠ .unknown ∧ cell.cls = cI ∧ cell.slots = (arrV cI 4 f).slots ∧ ¬ amA s t := by
  obtain ⟨cell, g1, ⟨g2, -⟩, g3, g4, g5, g6, g7⟩ := hT
  obtain ⟨a, c, cell2, k, x1, x2, x3, -, -, x6, -⟩ := Cond.exactly_spec hx
  cases ht.symm.trans x1
  cases g1.symm.trans x3
  cases hcI.symm.trans x2
  obtain ⟨cell3, y1, y2, y3⟩ := am_len ht (va_eqt hlen)
  cases g1.symm.trans y1
  have hsz : cell.slots.size = 4 := by
    have e : (4 : Int32) = cell.slots.size.toInt32 := Value.int.inj y3
    have e2 : (Int32.ofNat cell.slots.size).toInt = cell.slots.size := Int32.toInt_ofNat_of_lt y2
    have e3 : (Int32.ofNat cell.slots.size).toInt = (4 : Int32).toInt := congrArg Int32.toInt e.symm
    have e4 : (4 : Int32).toInt = 4 := by decide
    omega
  refine ⟨cell, g1, g2, g3, x6, ?_, g7⟩
  apply Array.ext
  · rw [hsz]
    unfold arrV
    simp
  · intro i h1 h2
    have h4 : i < 4 := by omega
    have := g6 i h4
    rw [Array.getElem?_eq_getElem h1] at this
    rw [Option.some.inj this]
    have e : ∀ h : i < (Array.ofFn fun j : Fin 4 => f j).size, (Array.ofFn fun j : Fin 4 => f j)[i] = f i := fun h => by simp only [Array.getElem_ofFn]
    exact (e (by simpa using h4)).symm
abbrev amFV : Term := .static RX5 "FIRST_VALUES" "[I"
abbrev amLV : Term := .static RX5 "LEAST_VALUES" "[I"
abbrev amGV : Term := .static RX5 "GREATEST_VALUES" "[I"
abbrev amAll : List Cond := flatC (Cond.and given_1 narrow_1)
theorem am_q1 : (Cond.arrayOf amFV .int) ∈ amAll ∧ (Cond.eq (.length amFV) (.int 4)) ∈ amAll ∧ (Cond.eq (.elem amFV (.int 0)) (.int 3)) ∈ amAll ∧ (Cond.eq (.elem amFV (.int 1)) (.int 50)) ∈ amAll ∧ (Cond.eq (.elem amFV (.int 2)) (.int 4)) ∈ amAll ∧ (Cond.eq (.elem amFV (.int 3)) (.int 20)) ∈ amAll ∧ (Cond.exactly amFV "[I") ∈ amAll := by decide +kernel
theorem am_q2 : (Cond.arrayOf amLV .int) ∈ amAll ∧ (Cond.eq (.length amLV) (.int 4)) ∈ amAll ∧ (Cond.eq (.elem amLV (.int 0)) (.int 0)) ∈ amAll ∧ (Cond.eq (.elem amLV (.int 1)) (.int 0)) ∈ amAll ∧ (Cond.eq (.elem amLV (.int 2)) (.int 1)) ∈ amAll ∧ (Cond.eq (.elem amLV (.int 3)) (.int 0)) ∈ amAll := by decide +kernel
theorem am_q3 : (Cond.arrayOf amGV .int) ∈ amAll ∧ (Cond.eq (.length amGV) (.int 4)) ∈ amAll ∧ (Cond.eq (.elem amGV (.int 0)) (.int 50)) ∈ amAll ∧ (Cond.eq (.elem amGV (.int 1)) (.int 100)) ∈ amAll ∧ (Cond.eq (.elem amGV (.int 2)) (.int 20)) ∈ amAll ∧ (Cond.eq (.elem amGV (.int 3)) (.int 100)) ∈ amAll := by decide +kernel
theorem am_q4 : (Cond.isRef (.static Bundle.tN "UNASSIGNED_STACK" Bundle.steD)) ∈ amAll ∧ (Cond.isRef (.static Bundle.tN "SUPPRESSED_SENTINEL" Bundle.listD)) ∈ amAll := by decide +kernel
theorem am_q5 : ∀ q ∈ kNcs, (Cond.not (.castable q.1 q.2)) ∈ amAll := by decide +kernel
theorem am_q6 : ∀ q ∈ kStrL, (Cond.exactly (.string RX5 q.1) "java/lang/String") ∈ amAll := by decide +kernel
theorem am_t1 : (Cond.laysStatic RX5 "FIRST_VALUES" "[I") ∈ lw_tbl ∧ (Cond.laysStatic RX5 "LEAST_VALUES" "[I") ∈ lw_tbl ∧ (Cond.laysStatic RX5 "GREATEST_VALUES" "[I") ∈ lw_tbl ∧ (Cond.initialized RX5) ∈ lw_tbl ∧ (Cond.laysStatic Bundle.tN "UNASSIGNED_STACK" Bundle.steD) ∈ lw_tbl ∧ (Cond.laysStatic Bundle.tN "SUPPRESSED_SENTINEL" Bundle.listD) ∈ lw_tbl ∧ (Cond.initialized Bundle.tN) ∈ lw_tbl ∧ (Cond.fieldLinkNest RX1 22 RX5 "FIRST_VALUES" "[I" RX5) ∈ lw_tbl := by decide +kernel
theorem am_t2 : ∀ q ∈ kStrL, (Cond.stringRef RX5 q.1 q.2) ∈ lw_tbl := by decide +kernel
theorem am_str (hts : ∀ w ∈ lw_tbl, w.before args s = true) (hs : ∀ w ∈ amAll, w.before args s = true) : ∃ ad : Nat → Nat, ∀ q ∈ kStrL, vk_R RX5 q.1 q.2 (ad q.1) s := by
  have h : ∀ k : Nat, ∃ a : Nat, (∃ a : Nat, (Term.string RX5 k).eval args s none [] s = some (.ref a)) → (Term.string RX5 k).eval args s none [] s = some (.ref a) := by
    intro k
    by_cases h : ∃ a : Nat, (Term.string RX5 k).eval args s none [] s = some (.ref a)
    · obtain ⟨a, ha⟩ := h
      exact ⟨a, fun _ => ha⟩
    · exact ⟨0, fun q => absurd q h⟩
  refine ⟨fun k => Classical.choose (h k), fun q hq => ?_⟩
  have := hs _ (am_q6 q hq)
  obtain ⟨a, c, cell2, k, x1, -⟩ := Cond.exactly_spec this
  exact vk_R.of (A := args) (hts _ (am_t2 q hq)) (Classical.choose_spec (h q.1) ⟨a, x1⟩)
theorem am_all (hts : ∀ w ∈ lw_tbl, w.before args s = true) (hs : ∀ w ∈ amAll, w.before args s = true) : ∃ g : kG, kAmb g (amA s) s s.heap := by
  obtain ⟨D, I, hK⟩ := am_K hts
  obtain ⟨q1, q2, q3, q4, q5, q6, q7⟩ := am_q1
  obtain ⟨r1, r2, r3, r4, r5, r6⟩ := am_q2
  obtain ⟨u1, u2, u3, u4, u5, u6⟩ := am_q3
  obtain ⟨v1, v2⟩ := am_q4
  obtain ⟨w1, w2, w3, w4, w5, w6, w7, w8⟩ := am_t1
  obtain ⟨-, o1, o2⟩ := am_w
  obtain ⟨t1, e1, T1⟩ := am_T (f := kF0) (hs _ q1) (hs _ q2) (hs _ q3) (hs _ q4) (hs _ q5) (hs _ q6) ⟨rfl, rfl, rfl, rfl⟩
  obtain ⟨t2, e2, T2⟩ := am_T (f := kF1) (hs _ r1) (hs _ r2) (hs _ r3) (hs _ r4) (hs _ r5) (hs _ r6) ⟨rfl, rfl, rfl, rfl⟩
  obtain ⟨t3, e3, T3⟩ := am_T (f := kF2) (hs _ u1) (hs _ u2) (hs _ u3) (hs _ u4) (hs _ u5) (hs _ u6) ⟨rfl, rfl, rfl, rfl⟩
  have hcI : s.vm.findClass "[I" = some I.1 := va_nm_int ((hK (t1, t2, t3)).2 0 _ rfl).2
  refine ⟨(D, I, (t1, t2, t3)), hK (t1, t2, t3), am_nest hts, ⟨⟨va_Zref (hts _ w1) (hts _ w4) e1 am_no, va_Zref (hts _ w2) (hts _ w4) e2 am_no, va_Zref (hts _ w3) (hts _ w4) e3 am_no⟩, T1, T2, T3⟩, ⟨am_str hts hs, vx_Zqof (hts _ w5) (hts _ w7) (hs _ v1) am_no, vx_Zqof (hts _ w6) (hts _ w7) (hs _ v2) am_no⟩, am_fv hcI (hs _ q7) (hs _ q2) e1 T1, va_AO.of (hts _ o1), va_AO.of (hts _ o2), va_Nw.of (A := args) rfl (hts _ w8), fun q hq => va_Nc.of (hs _ (am_q5 q hq))⟩
end AM
