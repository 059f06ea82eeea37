section PB2
variable {g : kG} {D : Nat → Nat → Nat} {R : kAd} {u : ShS} {t : TS} {b : SS} {p : PS} {h : HS} {n : NS}
theorem b50_out : (wB g D R u t b p h n).Perm ((wB0 D ++ wN g (D 0 1) R.2 n) ++ (((wBl g D R u t b p h n).eraseIdx 0).eraseIdx 4).flatten) := blk_out2 (wBl g D R u t b p h n) 0 4 (Nat.le_of_ble_eq_true rfl) (Nat.le_of_ble_eq_true rfl)
theorem b50_in (r2 : Nat → Nat → Nat) (n2 : NS) : ((((wBl g D R u t b p h n).eraseIdx 0).eraseIdx 4).flatten ++ (wB0 D ++ wN g (D 0 1) r2 n2)).Perm (wB g D (R.1, r2) u t b p h n2) := blk_in2 (wBl g D (R.1, r2) u t b p h n2) 0 4 (Nat.le_of_ble_eq_true rfl) (Nat.le_of_ble_eq_true rfl)
end PB2
theorem pm_C {α : Type} {O B E : List α} (Hd A M : List α) (h : O.Perm (B ++ E)) : ((Hd ++ O) ++ (A ++ M)).Perm ((B ++ A) ++ ((Hd ++ E) ++ M)) := by
  rw [← List.append_assoc, ← List.append_assoc]
  exact (pm_A2 Hd A h).append_right M
theorem pm_C' {α : Type} {O B E : List α} (Hd A M : List α) (h : O.Perm (B ++ E)) : ((Hd ++ O) ++ (A ++ M)).Perm ((A ++ B) ++ ((Hd ++ E) ++ M)) := by
  rw [← List.append_assoc, ← List.append_assoc]
  exact (pm_A Hd A h).append_right M
theorem pm_E {α : Type} {O a b : List α} (Hd Y : List α) (h : (a ++ b).Perm O) : (Hd ++ (a ++ (b ++ Y))).Perm ((Hd ++ O) ++ Y) := by
  rw [List.append_assoc]
  refine List.Perm.append_left Hd ?_
  rw [← List.append_assoc]
  exact h.append_right Y
theorem mem2 {i : Nat} (h : i < 2) : i ∈ [0, 1] := by
  match i, h with
  | 0, _ => decide
  | 1, _ => decide
abbrev kMid (g : kG) (D : Nat → Nat → Nat) (R : kAd) (u : ShS) (ts : TS) (bs : SS) (ps : PS) (hs : HS) (ns : NS) : va_W := ((((wBl g D R u ts bs ps hs ns).eraseIdx 0).eraseIdx 4).eraseIdx 0).flatten
abbrev kHdN (g : kG) (D : Nat → Nat → Nat) (row : Nat → Option Nat) : va_W := wB0 D ++ [(D 0 1, .inl (kSh g, 2, .inr (.inr (.inr (.inr row)))))]
abbrev rX5_keep : Room := { frames := 6, cells := 13, slots := 389, locals := 150 }
noncomputable def fX5_keep (p1 : Int32) (u : ShS) (ns : NS) : Option ((Nat × NS) ⊕ (Int32 × NS)) := if p1 < 0 then some (.inl (1, ns)) else if 2 ≤ p1 then some (.inl (1, ns)) else gd (inb p1 2) ((fX1_copyFrom ((ns p1.toNatClampNeg).getD ShNew) u).bind fun v => (fX1_strokeCount u).bind fun r => some (.inr (r, va_up ns p1.toNatClampNeg (some v))))
def obX5_keep (g : kG) (D : Nat → Nat → Nat) (R : kAd) (u : ShS) (ts : TS) (bs : SS) (ps : PS) (hs : HS) (ns : NS) : (Nat × NS) ⊕ (Int32 × NS) → kOut kAd
  | .inl (E, n2) => .inl (E, fun R => wB g D R u ts bs ps hs n2)
  | .inr (v, n2) => .inr ((some (.int v)), fun R => wB g D R u ts bs ps hs n2)
theorem in_X5_keep : ∀ w ∈ u_ws RX5 TX5 5, w ∈ wsX5_keep := by decide +kernel
theorem in_X5_keep1 : ∀ w ∈ u_ws RX1 TX1 6, w ∈ wsX5_keep := by decide +kernel
theorem fl_X5_keep : (Cond.fieldLink RX5 23 "BrushStrokes" "snapshots" "[LBrushStrokes$Sheet;") ∈ wsX5_keep ∧ (Cond.fieldLink RX5 10 "BrushStrokes" "sheet" "LBrushStrokes$Sheet;") ∈ wsX5_keep := by decide +kernel
theorem xw_X5_keep_74 : (Cond.classLink RX5 70 (kEx 1)) ∈ wsX5_keep ∧ (Cond.initialized (kEx 1)) ∈ wsX5_keep ∧ (∀ w ∈ (vx_atS RX5 74 (kEx 1) ["java/lang/RuntimeException", "java/lang/Exception"]).filter goodWord, w ∈ wsX5_keep) ∧ (∀ w ∈ (vx_atS RX5 74 (kEx 1) ["java/lang/RuntimeException", "java/lang/Exception"]).filter (fun w => !goodWord w), w ∈ Cond.castable (kEx 1) (kEx 1) :: kDecl.map Cond.declares) ∧ ∀ w ∈ Cond.classLink RX5 70 (kEx 1) :: Cond.initialized (kEx 1) :: vx_atS RX5 74 (kEx 1) ["java/lang/RuntimeException", "java/lang/Exception"], vx_ot w = true := by decide +kernel
theorem cw_X5_keep_X1_copyFrom_205 {p : Program} {s : State} {m : MethodId} {args : Array Value} {meth : Method} {c : Code} {g : kG} {A : Nat → Prop} (C : CT g p s m args meth c RX5 cX5_keep 3 (some .int) wsX5_keep A) : CallW rX5_keep s args RX5 RX1 205 yX1_copyFrom cX1_copyFrom 3 none wsX1_copyFrom rX1_copyFrom 0 0 1 := cwV 1 C.2.2.2.2.2.1 gX5_keep_X1_copyFrom rfl rfl rfl (by decide +kernel) ⟨(Nat.le_of_ble_eq_true rfl), (Nat.le_of_ble_eq_true rfl)⟩
theorem cw_X5_keep_X1_strokeCount_62 {p : Program} {s : State} {m : MethodId} {args : Array Value} {meth : Method} {c : Code} {g : kG} {A : Nat → Prop} (C : CT g p s m args meth c RX5 cX5_keep 3 (some .int) wsX5_keep A) : CallW rX5_keep s args RX5 RX1 62 yX1_strokeCount cX1_strokeCount 1 (some .int) wsX1_strokeCount rX1_strokeCount 0 0 0 := cwV 0 C.2.2.2.2.2.1 gX5_keep_X1_strokeCount rfl rfl rfl (by decide +kernel) ⟨(Nat.le_of_ble_eq_true rfl), (Nat.le_of_ble_eq_true rfl)⟩
theorem cw_X5_keep_X1_init {p : Program} {s : State} {m : MethodId} {args : Array Value} {meth : Method} {c : Code} {g : kG} {A : Nat → Prop} (C : CT g p s m args meth c RX5 cX5_keep 3 (some .int) wsX5_keep A) : CallB rX5_keep s args RX5 9 yX1_init cX1_init 2 none wsX1_init rX1_init 12 383 0 ∧ yX1_init.name = "<init>" ∧ (Cond.instanceMethod yX1_init).before args s = true := ⟨callB_of 0 C.2.2.2.2.2.1 gX5_keep_X1_init rfl rfl rfl (C.2.2.2.2.2.1 _ (by decide +kernel)) (C.2.2.2.2.2.1 _ (by decide +kernel)) (by decide +kernel) ⟨(Nat.le_of_ble_eq_true rfl), (Nat.le_of_ble_eq_true rfl)⟩, rfl, C.2.2.2.2.2.1 _ (by decide +kernel)⟩
set_option maxRecDepth 100000 in
set_option maxHeartbeats 4000000 in
theorem kX5_keep (l : Launch) (hl9 : l.stackTraces = false) (g : kG) (D : Nat → Nat → Nat) (R : kAd) (p1 : Int32) (u : ShS) (ts : TS) (bs : SS) (ps : PS) (hs : HS) (ns : NS) (o : (Nat × NS) ⊕ (Int32 × NS)) (hm : fX5_keep p1 u ns = some o) : KX (S := kAd) l yX5_keep wsX5_keep rX5_keep g [.ref (D 0 0), .int p1] (wB g D R u ts bs ps hs ns) (obX5_keep g D R u ts bs ps hs ns o) 13 389 := by
  refine KX.of (nL := 3) (by decide) rfl (Nat.le_of_ble_eq_true rfl) ?_
  intro p e s m args below meth c A ls C htab X hl
  have C : CT g p s m args meth c RX5 cX5_keep 3 (some .int) wsX5_keep A := C
  have hx := C.1
  have hb := C.2.1
  have hl : lv_has ls 3 [(0, .ref (D 0 0)), (1, .int p1)] := hl
  have hf23 := C.2.2.2.2.2.1 _ fl_X5_keep.1
  have hf10 := C.2.2.2.2.2.1 _ fl_X5_keep.2
  rw [fX5_keep] at hm
  refine lv_iload_n hx hb dX5_keep_0 rfl (lv_at hl 1 rfl) ?_
  refine lv_if_lt (tgt := 13) hx hb dX5_keep_1 (by decide) (fun hc => ?_) (fun hc => ?_)
  · cases sm (ifp hc hm)
    exact kxthrow (E := 1) R (names := ["java/lang/RuntimeException", "java/lang/Exception"]) (ik := 70) (is := 203) (ic := 74) (text := "there is no such slot") C htab X hl9 hl (by decide) (by decide) rfl (by decide) xw_X5_keep_74.1 xw_X5_keep_74.2.1 xw_X5_keep_74.2.2.1 xw_X5_keep_74.2.2.2.1 (by decide) xw_X5_keep_74.2.2.2.2 dX5_keep_13 dX5_keep_16 dX5_keep_17 dX5_keep_19 dX5_keep_22 (Nat.le_of_ble_eq_true rfl) (Nat.le_of_ble_eq_true rfl) (Nat.le_of_ble_eq_true rfl) (Nat.le_of_ble_eq_true rfl) (Nat.le_of_ble_eq_true rfl) (Nat.le_of_ble_eq_true rfl)
  have hm := ifn hc hm
  refine lv_iload_n hx hb dX5_keep_4 rfl (lv_at hl 1 rfl) ?_
  refine lv_aload_n hx hb dX5_keep_5 rfl (lv_at hl 0 rfl) ?_
  have X5 := X.perm b50_out
  refine kget C X5 0 (ci := 5) rfl rfl in_X5_keep 2 (by decide) hf23 (v := .ref (D 0 1)) rfl dX5_keep_6 ?_
  refine kalenH C X5 1 rfl (v := 2) rfl dX5_keep_9 ?_
  refine lv_icmp_lt (tgt := 23) hx hb dX5_keep_10 (by decide) (fun hc2 => ?_) (fun hc2 => ?_)
  rotate_left
  · cases sm (ifp (Int32.not_lt.mp hc2) hm)
    exact kxthrow (E := 1) R (names := ["java/lang/RuntimeException", "java/lang/Exception"]) (ik := 70) (is := 203) (ic := 74) (text := "there is no such slot") C htab X hl9 hl (by decide) (by decide) rfl (by decide) xw_X5_keep_74.1 xw_X5_keep_74.2.1 xw_X5_keep_74.2.2.1 xw_X5_keep_74.2.2.2.1 (by decide) xw_X5_keep_74.2.2.2.2 dX5_keep_13 dX5_keep_16 dX5_keep_17 dX5_keep_19 dX5_keep_22 (Nat.le_of_ble_eq_true rfl) (Nat.le_of_ble_eq_true rfl) (Nat.le_of_ble_eq_true rfl) (Nat.le_of_ble_eq_true rfl) (Nat.le_of_ble_eq_true rfl) (Nat.le_of_ble_eq_true rfl)
  have hm := ifn (Int32.not_le.mpr hc2) hm
  obtain ⟨hgk, hm⟩ := gd_t hm
  obtain ⟨v, hcl, hm⟩ := bnd hm
  obtain ⟨r, hcl2, hm⟩ := bnd hm
  cases sm hm
  clear hm
  have hk2 := mem2 (inb_lt hgk)
  refine lv_aload_n hx hb dX5_keep_23 rfl (lv_at hl 0 rfl) ?_
  refine kget C X5 0 (ci := 5) rfl rfl in_X5_keep 2 (by decide) hf23 (v := .ref (D 0 1)) rfl dX5_keep_24 ?_
  refine lv_iload_n hx hb dX5_keep_27 rfl (lv_at hl 1 rfl) ?_
  have tail : ∀ (r2 : Nat → Nat → Nat) (f2 : NS) (w : ShS) (ce sl : Nat) (ls : Array Slot) (H : Heap) (locs : List Loc), f2 p1.toNatClampNeg = some w → fX1_copyFrom w u = some v → va_up f2 p1.toNatClampNeg (some v) = va_up ns p1.toNatClampNeg (some v) → ce ≤ 13 → sl ≤ 389 → lv_has ls 3 [(2, .ref (r2 p1.toNatClampNeg 0)), (0, .ref (D 0 0)), (1, .int p1)] → ST g A s H locs ((wB0 D ++ wN g (D 0 1) r2 f2) ++ (wSh g (D 1) u ++ kMid g D R u ts bs ps hs ns)) → W p l e rX5_keep s m args below meth c H locs ce sl (kEndX g below args s (obX5_keep g D R u ts bs ps hs ns (.inr (r, va_up ns p1.toNatClampNeg (some v)))) A 13 389) (F0 m 49 ls []) := by
    intro r2 f2 w ce sl ls H locs hq hcl ef hce hsl hl X
    refine W.widen hce hsl ?_
    refine lv_aload_n hx hb dX5_keep_49 rfl (lv_at hl 0 rfl) ?_
    refine lv_aload_n hx hb dX5_keep_50 rfl (lv_at hl 1 rfl) ?_
    refine kget C X 0 (ci := 5) rfl rfl in_X5_keep 0 (by decide) hf10 (v := .ref (D 1 0)) rfl dX5_keep_51 ?_
    have hO := wO_out (g := g) (r := r2) (f := f2) hk2 hq
    have hO2 := (wO_in (g := g) (r := r2) (r' := r2) (f := f2) v (by decide) hk2 (fun _ _ => rfl)).symm
    refine kVp ((kHdN g D (oRow r2 f2) ++ wO g r2 f2 ([0, 1].erase p1.toNatClampNeg)) ++ kMid g D R u ts bs ps hs ns) (pm_C (kHdN g D (oRow r2 f2)) (wSh g (D 1) u) (kMid g D R u ts bs ps hs ns) hO) C X (kX1_copyFrom l g (r2 p1.toNatClampNeg) (D 1) w u v hcl) (cw_X5_keep_X1_copyFrom_205 C) 0 (ci := 1) rfl rfl (As := [.ref (D 1 0)]) rfl hl (rest := []) rfl (Nat.le_of_ble_eq_true rfl) (st2 := []) rfl dX5_keep_54 ⟨(Nat.le_of_ble_eq_true rfl), (Nat.le_of_ble_eq_true rfl)⟩ (w3 := wB g D (R.1, r2) u ts bs ps hs (va_up ns p1.toNatClampNeg (some v))) (by
      refine List.Perm.trans ?_ (b50_in (g := g) (D := D) (R := R) (u := u) (t := ts) (b := bs) (p := ps) (h := hs) (n := ns) r2 (va_up ns p1.toNatClampNeg (some v)))
      refine List.Perm.trans ?_ (List.perm_append_comm)
      refine (List.perm_append_comm).trans ?_
      rw [← ef]
      have e : wN g (D 0 1) r2 (va_up f2 p1.toNatClampNeg (some v)) = (D 0 1, .inl (kSh g, 2, .inr (.inr (.inr (.inr (oRow r2 f2)))))) :: wO g r2 (va_up f2 p1.toNatClampNeg (some v)) [0, 1] := by rw [← oRow_same (r := r2) (v := v) hq]
      rw [e]
      exact (pm_C (kHdN g D (oRow r2 f2)) (wSh g (D 1) u) (kMid g D R u ts bs ps hs ns) hO2).symm) (fun H locs X => ?_)
    refine lv_aload_n hx hb dX5_keep_57 rfl (lv_at hl 1 rfl) ?_
    refine kget C X 0 (ci := 5) rfl rfl in_X5_keep 0 (by decide) hf10 (v := .ref (D 1 0)) rfl dX5_keep_58 ?_
    refine kVp _ b1_out C X (kX1_strokeCount l g (D 1) u r hcl2) (cw_X5_keep_X1_strokeCount_62 C) 0 (ci := 1) rfl rfl (As := []) rfl hl (rest := []) rfl (Nat.le_of_ble_eq_true rfl) (st2 := [.int r]) rfl dX5_keep_61 ⟨(Nat.le_of_ble_eq_true rfl), (Nat.le_of_ble_eq_true rfl)⟩ (w3 := wB g D (R.1, r2) u ts bs ps hs (va_up ns p1.toNatClampNeg (some v))) (b1_in u) (fun H locs X => ?_)
    exact kxret (w2 := fun R => wB g D R u ts bs ps hs (va_up ns p1.toNatClampNeg (some v))) (R.1, r2) (Nat.le_refl _) (Nat.le_refl _) (kiret C X dX5_keep_64)
  cases hq : ns p1.toNatClampNeg with
  | some w =>
    rw [hq] at hcl
    refine kaldH C X5 1 rfl hgk (v := .ref (R.2 p1.toNatClampNeg 0)) (by show va_rf ((ns _).map _) = _; rw [hq]; rfl) dX5_keep_28 ?_
    refine lv_astore_n (lv' := [(2, .ref (R.2 p1.toNatClampNeg 0)), (0, .ref (D 0 0)), (1, .int p1)]) hx hb dX5_keep_29 rfl hl (by decide) rfl (fun ls hl => ?_)
    refine lv_aload_n hx hb dX5_keep_30 rfl (lv_at hl 0 rfl) ?_
    refine lv_ifnonnull (tgt := 49) hx hb dX5_keep_31 (by decide) ?_
    exact tail R.2 ns w 0 0 ls _ _ hq hcl rfl (Nat.zero_le _) (Nat.zero_le _) hl X5
  | none =>
    rw [hq] at hcl
    refine kaldH C X5 1 rfl hgk (v := .null) (by show va_rf ((ns _).map _) = _; rw [hq]; rfl) dX5_keep_28 ?_
    refine lv_astore_nN (lv' := [(2, .null), (0, .ref (D 0 0)), (1, .int p1)]) hx hb dX5_keep_29 rfl hl (by decide) rfl (fun ls hl => ?_)
    refine lv_aload_nN hx hb dX5_keep_30 rfl (lv_at hl 0 rfl) ?_
    refine lv_ifnonnullN hx hb dX5_keep_31 ?_
    refine knew (ci := 1) [.null, .null, .null, .int 0, .int 0, .int 0] C X5 rfl in_X5_keep1 tyX1_ok (by decide +kernel) (by decide +kernel) (Nat.le_of_ble_eq_true rfl) (Nat.le_of_ble_eq_true rfl) dX5_keep_34 (fun q H X => ?_)
    refine lv_dup hx hb dX5_keep_37 rfl ?_
    refine keI (As := []) ((wB0 D ++ wN g (D 0 1) R.2 ns) ++ (wSh g (D 1) u ++ kMid g D R u ts bs ps hs ns)) (List.perm_append_comm) C X (kX1_init l g q) (cw_X5_keep_X1_init C) rfl hl rfl (Nat.le_of_ble_eq_true rfl) dX5_keep_38 ⟨(Nat.le_of_ble_eq_true rfl), (Nat.le_of_ble_eq_true rfl)⟩ (w4 := fun b => kHdN g D (oRow R.2 ns) ++ (wSh g (ad0 q b) ShNew ++ (wO g R.2 ns ([0, 1].erase p1.toNatClampNeg) ++ (wSh g (D 1) u ++ kMid g D R u ts bs ps hs ns)))) (fun b => by
      have hO := wO_none (g := g) (r := R.2) hk2 hq
      show (((kHdN g D (oRow R.2 ns) ++ wO g R.2 ns [0, 1]) ++ _) ++ _).Perm _
      refine (((hO.append_left _).append_right _).append_right _).trans ?_
      rw [List.append_assoc, List.append_assoc]
      refine List.Perm.append_left _ ?_
      rw [← List.append_assoc]
      exact List.perm_append_comm) (fun b H locs X => ?_)
    refine lv_astore_n (lv' := [(2, .ref q), (0, .ref (D 0 0)), (1, .int p1)]) hx hb dX5_keep_41 rfl hl (by decide) rfl (fun ls hl => ?_)
    refine lv_aload_n hx hb dX5_keep_42 rfl (lv_at hl 1 rfl) ?_
    refine kget C X 0 (ci := 5) rfl rfl in_X5_keep 2 (by decide) hf23 (v := .ref (D 0 1)) rfl dX5_keep_43 ?_
    refine lv_iload_n hx hb dX5_keep_46 rfl (lv_at hl 2 rfl) ?_
    refine lv_aload_n hx hb dX5_keep_47 rfl (lv_at hl 0 rfl) ?_
    refine kastH C X 1 2 rfl rfl hgk (w3 := kHdN g D (va_up (oRow R.2 ns) p1.toNatClampNeg (some q)) ++ (wSh g (ad0 q b) ShNew ++ (wO g R.2 ns ([0, 1].erase p1.toNatClampNeg) ++ (wSh g (D 1) u ++ kMid g D R u ts bs ps hs ns)))) rfl dX5_keep_48 (fun H locs X => ?_)
    have hr2 : ∀ i, i ≠ p1.toNatClampNeg → R.2 i = va_up R.2 p1.toNatClampNeg (ad0 q b) i := fun i hi => (vu_ne R.2 _ hi).symm
    have hrk : va_up R.2 p1.toNatClampNeg (ad0 q b) p1.toNatClampNeg = ad0 q b := vu_self R.2 _ _
    have hO2 := wO_in (g := g) (r := R.2) (r' := va_up R.2 p1.toNatClampNeg (ad0 q b)) (f := ns) ShNew (by decide) hk2 hr2
    rw [hrk] at hO2
    have hrow := oRow_up (r := R.2) (r' := va_up R.2 p1.toNatClampNeg (ad0 q b)) (f := ns) (k := p1.toNatClampNeg) (v := ShNew) hr2
    rw [hrk] at hrow
    have X2 : ST g A s H locs ((wB0 D ++ wN g (D 0 1) (va_up R.2 p1.toNatClampNeg (ad0 q b)) (va_up ns p1.toNatClampNeg (some ShNew))) ++ (wSh g (D 1) u ++ kMid g D R u ts bs ps hs ns)) := by
      refine X.perm ?_
      show List.Perm _ ((kHdN g D (oRow (va_up R.2 p1.toNatClampNeg (ad0 q b)) (va_up ns p1.toNatClampNeg (some ShNew))) ++ wO g (va_up R.2 p1.toNatClampNeg (ad0 q b)) (va_up ns p1.toNatClampNeg (some ShNew)) [0, 1]) ++ _)
      rw [hrow]
      exact pm_E (kHdN g D (va_up (oRow R.2 ns) p1.toNatClampNeg (some q))) (wSh g (D 1) u ++ kMid g D R u ts bs ps hs ns) hO2
    have h3 : Value.ref q = .ref (va_up R.2 p1.toNatClampNeg (ad0 q b) p1.toNatClampNeg 0) := by rw [hrk]; rfl
    rw [h3] at hl
    refine tail (va_up R.2 p1.toNatClampNeg (ad0 q b)) (va_up ns p1.toNatClampNeg (some ShNew)) ShNew 13 389 ls H locs (vu_self _ _ _) hcl ?_ (Nat.le_refl _) (Nat.le_refl _) hl X2
    funext i
    by_cases hi : i = p1.toNatClampNeg
    · subst hi
      rw [vu_self, vu_self]
    · rw [vu_ne _ _ hi, vu_ne _ _ hi, vu_ne _ _ hi]
abbrev rX5_goBack : Room := { frames := 7, cells := 14, slots := 395, locals := 253 }
noncomputable def fX5_goBack (p1 : Int32) (u : ShS) (hs : HS) (ns : NS) : Option ((Nat × ShS × HS) ⊕ (Int32 × ShS × HS)) := if p1 < 0 then some (.inl (1, u, hs)) else if 2 ≤ p1 then some (.inl (1, u, hs)) else gd (inb p1 2) (Option.elim (ns p1.toNatClampNeg) (some (.inl (2, u, hs))) (fun w => (fX0_save hs u).bind fun h2 => (fX1_copyFrom u w).bind fun v => (fX1_strokeCount v).bind fun r => some (.inr (r, v, h2))))
def obX5_goBack (g : kG) (D : Nat → Nat → Nat) (R : kAd) (u : ShS) (ts : TS) (bs : SS) (ps : PS) (hs : HS) (ns : NS) : (Nat × ShS × HS) ⊕ (Int32 × ShS × HS) → kOut kAd
  | .inl (E, u2, h2) => .inl (E, fun R => wB g D R u2 ts bs ps h2 ns)
  | .inr (v, u2, h2) => .inr ((some (.int v)), fun R => wB g D R u2 ts bs ps h2 ns)
theorem in_X5_goBack : ∀ w ∈ u_ws RX5 TX5 5, w ∈ wsX5_goBack := by decide +kernel
theorem fl_X5_goBack : (Cond.fieldLink RX5 23 "BrushStrokes" "snapshots" "[LBrushStrokes$Sheet;") ∈ wsX5_goBack ∧ (Cond.fieldLink RX5 10 "BrushStrokes" "sheet" "LBrushStrokes$Sheet;") ∈ wsX5_goBack ∧ (Cond.fieldLink RX5 19 "BrushStrokes" "history" "LBrushStrokes$History;") ∈ wsX5_goBack := by decide +kernel
theorem xw_X5_goBack_74 : (Cond.classLink RX5 70 (kEx 1)) ∈ wsX5_goBack ∧ (Cond.initialized (kEx 1)) ∈ wsX5_goBack ∧ (∀ w ∈ (vx_atS RX5 74 (kEx 1) ["java/lang/RuntimeException", "java/lang/Exception"]).filter goodWord, w ∈ wsX5_goBack) ∧ (∀ w ∈ (vx_atS RX5 74 (kEx 1) ["java/lang/RuntimeException", "java/lang/Exception"]).filter (fun w => !goodWord w), w ∈ Cond.castable (kEx 1) (kEx 1) :: kDecl.map Cond.declares) ∧ ∀ w ∈ Cond.classLink RX5 70 (kEx 1) :: Cond.initialized (kEx 1) :: vx_atS RX5 74 (kEx 1) ["java/lang/RuntimeException", "java/lang/Exception"], vx_ot w = true := by decide +kernel
theorem xw_X5_goBack_107 : (Cond.classLink RX5 103 (kEx 2)) ∈ wsX5_goBack ∧ (Cond.initialized (kEx 2)) ∈ wsX5_goBack ∧ (∀ w ∈ (vx_atS RX5 107 (kEx 2) ["java/lang/RuntimeException", "java/lang/Exception"]).filter goodWord, w ∈ wsX5_goBack) ∧ (∀ w ∈ (vx_atS RX5 107 (kEx 2) ["java/lang/RuntimeException", "java/lang/Exception"]).filter (fun w => !goodWord w), w ∈ Cond.castable (kEx 2) (kEx 2) :: kDecl.map Cond.declares) ∧ ∀ w ∈ Cond.classLink RX5 103 (kEx 2) :: Cond.initialized (kEx 2) :: vx_atS RX5 107 (kEx 2) ["java/lang/RuntimeException", "java/lang/Exception"], vx_ot w = true := by decide +kernel
theorem cw_X5_goBack_X1_copyFrom_205 {p : Program} {s : State} {m : MethodId} {args : Array Value} {meth : Method} {c : Code} {g : kG} {A : Nat → Prop} (C : CT g p s m args meth c RX5 cX5_goBack 3 (some .int) wsX5_goBack A) : CallW rX5_goBack s args RX5 RX1 205 yX1_copyFrom cX1_copyFrom 3 none wsX1_copyFrom rX1_copyFrom 0 0 1 := cwV 1 C.2.2.2.2.2.1 gX5_goBack_X1_copyFrom rfl rfl rfl (by decide +kernel) ⟨(Nat.le_of_ble_eq_true rfl), (Nat.le_of_ble_eq_true rfl)⟩
theorem cw_X5_goBack_X1_strokeCount_62 {p : Program} {s : State} {m : MethodId} {args : Array Value} {meth : Method} {c : Code} {g : kG} {A : Nat → Prop} (C : CT g p s m args meth c RX5 cX5_goBack 3 (some .int) wsX5_goBack A) : CallW rX5_goBack s args RX5 RX1 62 yX1_strokeCount cX1_strokeCount 1 (some .int) wsX1_strokeCount rX1_strokeCount 0 0 0 := cwV 0 C.2.2.2.2.2.1 gX5_goBack_X1_strokeCount rfl rfl rfl (by decide +kernel) ⟨(Nat.le_of_ble_eq_true rfl), (Nat.le_of_ble_eq_true rfl)⟩
theorem cw_X5_goBack_X0_save_48 {p : Program} {s : State} {m : MethodId} {args : Array Value} {meth : Method} {c : Code} {g : kG} {A : Nat → Prop} (C : CT g p s m args meth c RX5 cX5_goBack 3 (some .int) wsX5_goBack A) : CallW rX5_goBack s args RX5 RX0 48 yX0_save cX0_save 4 none wsX0_save rX0_save 13 389 1 := cwV 1 C.2.2.2.2.2.1 gX5_goBack_X0_save rfl rfl rfl (by decide +kernel) ⟨(Nat.le_of_ble_eq_true rfl), (Nat.le_of_ble_eq_true rfl)⟩
set_option maxRecDepth 100000 in
set_option maxHeartbeats 4000000 in
theorem kX5_goBack (l : Launch) (hl9 : l.stackTraces = false) (g : kG) (D : Nat → Nat → Nat) (R : kAd) (p1 : Int32) (u : ShS) (ts : TS) (bs : SS) (ps : PS) (hs : HS) (ns : NS) (o : (Nat × ShS × HS) ⊕ (Int32 × ShS × HS)) (hm : fX5_goBack p1 u hs ns = some o) : KX (S := kAd) l yX5_goBack wsX5_goBack rX5_goBack g [.ref (D 0 0), .int p1] (wB g D R u ts bs ps hs ns) (obX5_goBack g D R u ts bs ps hs ns o) 14 395 := by
  refine KX.of (nL := 3) (by decide) rfl (Nat.le_of_ble_eq_true rfl) ?_
  intro p e s m args below meth c A ls C htab X hl
  have C : CT g p s m args meth c RX5 cX5_goBack 3 (some .int) wsX5_goBack A := C
  have hx := C.1
  have hb := C.2.1
  have hl : lv_has ls 3 [(0, .ref (D 0 0)), (1, .int p1)] := hl
  have hf23 := C.2.2.2.2.2.1 _ fl_X5_goBack.1
  have hf10 := C.2.2.2.2.2.1 _ fl_X5_goBack.2.1
  have hf19 := C.2.2.2.2.2.1 _ fl_X5_goBack.2.2
  rw [fX5_goBack] at hm
  refine lv_iload_n hx hb dX5_goBack_0 rfl (lv_at hl 1 rfl) ?_
  refine lv_if_lt (tgt := 13) hx hb dX5_goBack_1 (by decide) (fun hc => ?_) (fun hc => ?_)
  · cases sm (ifp hc hm)
    exact kxthrow (E := 1) R (names := ["java/lang/RuntimeException", "java/lang/Exception"]) (ik := 70) (is := 203) (ic := 74) (text := "there is no such slot") C htab X hl9 hl (by decide) (by decide) rfl (by decide) xw_X5_goBack_74.1 xw_X5_goBack_74.2.1 xw_X5_goBack_74.2.2.1 xw_X5_goBack_74.2.2.2.1 (by decide) xw_X5_goBack_74.2.2.2.2 dX5_goBack_13 dX5_goBack_16 dX5_goBack_17 dX5_goBack_19 dX5_goBack_22 (Nat.le_of_ble_eq_true rfl) (Nat.le_of_ble_eq_true rfl) (Nat.le_of_ble_eq_true rfl) (Nat.le_of_ble_eq_true rfl) (Nat.le_of_ble_eq_true rfl) (Nat.le_of_ble_eq_true rfl)
  have hm := ifn hc hm
  refine lv_iload_n hx hb dX5_goBack_4 rfl (lv_at hl 1 rfl) ?_
  refine lv_aload_n hx hb dX5_goBack_5 rfl (lv_at hl 0 rfl) ?_
  have X5 := X.perm b50_out
  refine kget C X5 0 (ci := 5) rfl rfl in_X5_goBack 2 (by decide) hf23 (v := .ref (D 0 1)) rfl dX5_goBack_6 ?_
  refine kalenH C X5 1 rfl (v := 2) rfl dX5_goBack_9 ?_
  refine lv_icmp_lt (tgt := 23) hx hb dX5_goBack_10 (by decide) (fun hc2 => ?_) (fun hc2 => ?_)
  rotate_left
  · cases sm (ifp (Int32.not_lt.mp hc2) hm)
    exact kxthrow (E := 1) R (names := ["java/lang/RuntimeException", "java/lang/Exception"]) (ik := 70) (is := 203) (ic := 74) (text := "there is no such slot") C htab X hl9 hl (by decide) (by decide) rfl (by decide) xw_X5_goBack_74.1 xw_X5_goBack_74.2.1 xw_X5_goBack_74.2.2.1 xw_X5_goBack_74.2.2.2.1 (by decide) xw_X5_goBack_74.2.2.2.2 dX5_goBack_13 dX5_goBack_16 dX5_goBack_17 dX5_goBack_19 dX5_goBack_22 (Nat.le_of_ble_eq_true rfl) (Nat.le_of_ble_eq_true rfl) (Nat.le_of_ble_eq_true rfl) (Nat.le_of_ble_eq_true rfl) (Nat.le_of_ble_eq_true rfl) (Nat.le_of_ble_eq_true rfl)
  have hm := ifn (Int32.not_le.mpr hc2) hm
  obtain ⟨hgk, hm⟩ := gd_t hm
  have hk2 := mem2 (inb_lt hgk)
  refine lv_aload_n hx hb dX5_goBack_23 rfl (lv_at hl 0 rfl) ?_
  refine kget C X5 0 (ci := 5) rfl rfl in_X5_goBack 2 (by decide) hf23 (v := .ref (D 0 1)) rfl dX5_goBack_24 ?_
  refine lv_iload_n hx hb dX5_goBack_27 rfl (lv_at hl 1 rfl) ?_
  cases hq : ns p1.toNatClampNeg with
  | none =>
    rw [hq] at hm
    cases sm hm
    refine kaldH C X5 1 rfl hgk (v := .null) (by show va_rf ((ns _).map _) = _; rw [hq]; rfl) dX5_goBack_28 ?_
    refine lv_astore_nN (lv' := [(2, .null), (0, .ref (D 0 0)), (1, .int p1)]) hx hb dX5_goBack_29 rfl hl (by decide) rfl (fun ls hl => ?_)
    refine lv_aload_nN hx hb dX5_goBack_30 rfl (lv_at hl 0 rfl) ?_
    refine lv_ifnonnullN hx hb dX5_goBack_31 ?_
    exact kxthrow (E := 2) R (names := ["java/lang/RuntimeException", "java/lang/Exception"]) (ik := 103) (is := 207) (ic := 107) (text := "the slot is empty") C htab X hl9 hl (by decide) (by decide) rfl (by decide) xw_X5_goBack_107.1 xw_X5_goBack_107.2.1 xw_X5_goBack_107.2.2.1 xw_X5_goBack_107.2.2.2.1 (by decide) xw_X5_goBack_107.2.2.2.2 dX5_goBack_34 dX5_goBack_37 dX5_goBack_38 dX5_goBack_40 dX5_goBack_43 (Nat.le_of_ble_eq_true rfl) (Nat.le_of_ble_eq_true rfl) (Nat.le_of_ble_eq_true rfl) (Nat.le_of_ble_eq_true rfl) (Nat.le_of_ble_eq_true rfl) (Nat.le_of_ble_eq_true rfl)
  | some w =>
    rw [hq] at hm
    obtain ⟨h2, hcl, hm⟩ := bnd hm
    obtain ⟨v, hcl1, hm⟩ := bnd hm
    obtain ⟨r, hcl2, hm⟩ := bnd hm
    cases sm hm
    refine kaldH C X5 1 rfl hgk (v := .ref (R.2 p1.toNatClampNeg 0)) (by show va_rf ((ns _).map _) = _; rw [hq]; rfl) dX5_goBack_28 ?_
    refine lv_astore_n (lv' := [(2, .ref (R.2 p1.toNatClampNeg 0)), (0, .ref (D 0 0)), (1, .int p1)]) hx hb dX5_goBack_29 rfl hl (by decide) rfl (fun ls hl => ?_)
    refine lv_aload_n hx hb dX5_goBack_30 rfl (lv_at hl 0 rfl) ?_
    refine lv_ifnonnull (tgt := 44) hx hb dX5_goBack_31 (by decide) ?_
    refine lv_aload_n hx hb dX5_goBack_44 rfl (lv_at hl 1 rfl) ?_
    refine kget C X 0 (ci := 5) rfl rfl in_X5_goBack 1 (by decide) hf19 (v := .ref (D 5 0)) rfl dX5_goBack_45 ?_
    refine lv_aload_n hx hb dX5_goBack_48 rfl (lv_at hl 1 rfl) ?_
    refine kget C X 0 (ci := 5) rfl rfl in_X5_goBack 0 (by decide) hf10 (v := .ref (D 1 0)) rfl dX5_goBack_49 ?_
    refine kxV _ b41_out C X (kX0_save l g (D 5) (D 1) R.1 hs u h2 hcl) (cw_X5_goBack_X0_save_48 C) 0 (ci := 0) rfl rfl (As := [.ref (D 1 0)]) rfl hl (rest := []) rfl (Nat.le_of_ble_eq_true rfl) (st2 := []) rfl dX5_goBack_52 ⟨(Nat.le_of_ble_eq_true rfl), (Nat.le_of_ble_eq_true rfl)⟩ (w3 := (fun r2 => wB g D (r2, R.2) u ts bs ps h2 ns)) (fun r2 => b41_in r2 h2 u) (fun r2 H locs X => ?_)
    refine lv_aload_n hx hb dX5_goBack_55 rfl (lv_at hl 1 rfl) ?_
    refine kget C X 0 (ci := 5) rfl rfl in_X5_goBack 0 (by decide) hf10 (v := .ref (D 1 0)) rfl dX5_goBack_56 ?_
    refine lv_aload_n hx hb dX5_goBack_59 rfl (lv_at hl 0 rfl) ?_
    have hO := wO_out (g := g) (r := R.2) (f := ns) hk2 hq
    refine kVp ((kHdN g D (oRow R.2 ns) ++ wO g R.2 ns ([0, 1].erase p1.toNatClampNeg)) ++ kMid g D (r2, R.2) u ts bs ps h2 ns) (pm_C' (kHdN g D (oRow R.2 ns)) (wSh g (D 1) u) (kMid g D (r2, R.2) u ts bs ps h2 ns) hO) C (X.perm b50_out) (kX1_copyFrom l g (D 1) (R.2 p1.toNatClampNeg) u w v hcl1) (cw_X5_goBack_X1_copyFrom_205 C) 0 (ci := 1) rfl rfl (As := [.ref (R.2 p1.toNatClampNeg 0)]) rfl hl (rest := []) rfl (Nat.le_of_ble_eq_true rfl) (st2 := []) rfl dX5_goBack_60 ⟨(Nat.le_of_ble_eq_true rfl), (Nat.le_of_ble_eq_true rfl)⟩ (w3 := wB g D (r2, R.2) v ts bs ps h2 ns) (by
      refine List.Perm.trans ?_ (b50_out (g := g) (D := D) (R := (r2, R.2)) (u := v) (t := ts) (b := bs) (p := ps) (h := h2) (n := ns)).symm
      refine (List.perm_append_comm).trans ?_
      exact (pm_C' (kHdN g D (oRow R.2 ns)) (wSh g (D 1) v) (kMid g D (r2, R.2) v ts bs ps h2 ns) hO).symm) (fun H locs X => ?_)
    refine lv_aload_n hx hb dX5_goBack_63 rfl (lv_at hl 1 rfl) ?_
    refine kget C X 0 (ci := 5) rfl rfl in_X5_goBack 0 (by decide) hf10 (v := .ref (D 1 0)) rfl dX5_goBack_64 ?_
    refine kVp _ b1_out C X (kX1_strokeCount l g (D 1) v r hcl2) (cw_X5_goBack_X1_strokeCount_62 C) 0 (ci := 1) rfl rfl (As := []) rfl hl (rest := []) rfl (Nat.le_of_ble_eq_true rfl) (st2 := [.int r]) rfl dX5_goBack_67 ⟨(Nat.le_of_ble_eq_true rfl), (Nat.le_of_ble_eq_true rfl)⟩ (w3 := wB g D (r2, R.2) v ts bs ps h2 ns) (b1_in v) (fun H locs X => ?_)
    exact kxret (w2 := fun R => wB g D R v ts bs ps h2 ns) (r2, R.2) (Nat.le_of_ble_eq_true rfl) (Nat.le_of_ble_eq_true rfl) (kiret C X dX5_goBack_70)
abbrev rX5_share : Room := { frames := 5, cells := 0, slots := 0, locals := 110 }
def nn64 (r : UInt64) : Bool := decide (r &&& 0x7fffffffffffffff ≤ 0x7ff0000000000000)
theorem nn64_t {r : UInt64} (h : nn64 r = true) : vf_n64 r := of_decide_eq_true (p := r &&& 0x7fffffffffffffff ≤ 0x7ff0000000000000) h
noncomputable def fX5_share (u : ShS) : Option UInt64 := (fX1_allPoints u).bind fun n => if 0 < Op.cmpValue (FP.dcmp (FP.i2d n) FP.dconst0) .g then ((fX1_allKept u).bind fun k => gd (nn64 (FP.ddiv (FP.i2d k) (FP.i2d n))) (some (FP.ddiv (FP.i2d k) (FP.i2d n)))) else some FP.dconst1
theorem in_X5_share : ∀ w ∈ u_ws RX5 TX5 5, w ∈ wsX5_share := by decide +kernel
theorem fl_X5_share : (Cond.fieldLink RX5 10 "BrushStrokes" "sheet" "LBrushStrokes$Sheet;") ∈ wsX5_share := by decide +kernel
theorem cw_X5_share_X1_allPoints_255 {p : Program} {s : State} {m : MethodId} {args : Array Value} {meth : Method} {c : Code} {g : kG} {A : Nat → Prop} (C : CT g p s m args meth c RX5 cX5_share 3 (some .double) wsX5_share A) : CallW rX5_share s args RX5 RX1 255 yX1_allPoints cX1_allPoints 3 (some .int) wsX1_allPoints rX1_allPoints 0 0 0 := cwV 0 C.2.2.2.2.2.1 gX5_share_X1_allPoints rfl rfl rfl (by decide +kernel) ⟨(Nat.le_of_ble_eq_true rfl), (Nat.le_of_ble_eq_true rfl)⟩
theorem cw_X5_share_X1_allKept_258 {p : Program} {s : State} {m : MethodId} {args : Array Value} {meth : Method} {c : Code} {g : kG} {A : Nat → Prop} (C : CT g p s m args meth c RX5 cX5_share 3 (some .double) wsX5_share A) : CallW rX5_share s args RX5 RX1 258 yX1_allKept cX1_allKept 3 (some .int) wsX1_allKept rX1_allKept 0 0 0 := cwV 0 C.2.2.2.2.2.1 gX5_share_X1_allKept rfl rfl rfl (by decide +kernel) ⟨(Nat.le_of_ble_eq_true rfl), (Nat.le_of_ble_eq_true rfl)⟩
set_option maxRecDepth 100000 in
set_option maxHeartbeats 4000000 in
theorem kX5_share (l : Launch) (g : kG) (D : Nat → Nat → Nat) (R : kAd) (u : ShS) (ts : TS) (bs : SS) (ps : PS) (hs : HS) (ns : NS) (o : UInt64) (hm : fX5_share u = some o) : KM l yX5_share wsX5_share rX5_share g [.ref (D 0 0)] (wB g D R u ts bs ps hs ns) (some (.double o)) (wB g D R u ts bs ps hs ns) 0 0 := by
  refine KM.of (nL := 3) (by decide) rfl (Nat.le_of_ble_eq_true rfl) ?_
  intro p e s m args below meth c A ls C X hl
  have C : CT g p s m args meth c RX5 cX5_share 3 (some .double) wsX5_share A := C
  have hx := C.1
  have hb := C.2.1
  have hl : lv_has ls 3 [(0, .ref (D 0 0))] := hl
  have hf10 := C.2.2.2.2.2.1 _ fl_X5_share
  rw [fX5_share] at hm
  refine lv_aload_n hx hb dX5_share_0 rfl (lv_at hl 0 rfl) ?_
  refine kget C X 0 (ci := 5) rfl rfl in_X5_share 0 (by decide) hf10 (v := .ref (D 1 0)) rfl dX5_share_1 ?_
  obtain ⟨n, hcl, hm⟩ := bnd hm
  refine kVp _ b1_out C X (kX1_allPoints l g (D 1) u n hcl) (cw_X5_share_X1_allPoints_255 C) 0 (ci := 1) rfl rfl (As := []) rfl hl (rest := []) rfl (Nat.le_of_ble_eq_true rfl) (st2 := [.int n]) rfl dX5_share_4 ⟨(Nat.le_of_ble_eq_true rfl), (Nat.le_of_ble_eq_true rfl)⟩ (w3 := wB g D R u ts bs ps hs ns) (b1_in u) (fun H locs X => ?_)
  refine lv_i2d hx hb dX5_share_7 ?_
  refine lv_dstore_n (lv' := [(1, .double (FP.i2d n)), (0, .ref (D 0 0))]) hx hb dX5_share_8 rfl hl (by decide) rfl (fun ls hl => ?_)
  refine lv_dload_n hx hb dX5_share_9 rfl (lv_at hl 0 rfl) ?_
  refine lv_dconst0 hx hb dX5_share_10 ?_
  refine lv_dcmp hx hb dX5_share_11 ?_
  refine lv_if_gt (tgt := 17) hx hb dX5_share_12 (by decide) (fun hc => ?_) (fun hc => ?_)
  · have hm := ifp hc hm
    obtain ⟨k, hcl2, hm⟩ := bnd hm
    obtain ⟨hgk, hm⟩ := gd_t hm
    cases sm hm
    refine lv_aload_n hx hb dX5_share_17 rfl (lv_at hl 1 rfl) ?_
    refine kget C X 0 (ci := 5) rfl rfl in_X5_share 0 (by decide) hf10 (v := .ref (D 1 0)) rfl dX5_share_18 ?_
    refine kVp _ b1_out C X (kX1_allKept l g (D 1) u k hcl2) (cw_X5_share_X1_allKept_258 C) 0 (ci := 1) rfl rfl (As := []) rfl hl (rest := []) rfl (Nat.le_of_ble_eq_true rfl) (st2 := [.int k]) rfl dX5_share_21 ⟨(Nat.le_of_ble_eq_true rfl), (Nat.le_of_ble_eq_true rfl)⟩ (w3 := wB g D R u ts bs ps hs ns) (b1_in u) (fun H locs X => ?_)
    refine lv_i2d hx hb dX5_share_24 ?_
    refine lv_dload_n hx hb dX5_share_25 rfl (lv_at hl 0 rfl) ?_
    refine lv_ddiv hx hb dX5_share_26 (nn64_t hgk) ?_
    exact kdret C X dX5_share_27
  · cases sm (ifn hc hm)
    refine lv_dconst1 hx hb dX5_share_15 ?_
    exact kdret C X dX5_share_16
