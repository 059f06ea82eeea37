-- the history
theorem wO_out {g : kG} {r : Nat → Nat → Nat} {f : Nat → Option ShS} {k : Nat} {w : ShS} {l : List Nat} (hk : k ∈ l) (hf : f k = some w) : (wO g r f l).Perm (wSh g (r k) w ++ wO g r f (l.erase k)) := by
  have h : (wO g r f l).Perm (wO g r f (k :: l.erase k)) := (List.perm_cons_erase hk).flatMap_right (fun i => wO1 g (r i) (f i))
  refine h.trans ?_
  show (wO1 g (r k) (f k) ++ wO g r f (l.erase k)).Perm _
  rw [hf]
  exact List.Perm.refl _
theorem wO_none {g : kG} {r : Nat → Nat → Nat} {f : Nat → Option ShS} {k : Nat} {l : List Nat} (hk : k ∈ l) (hf : f k = none) : (wO g r f l).Perm (wO g r f (l.erase k)) := by
  have h : (wO g r f l).Perm (wO g r f (k :: l.erase k)) := (List.perm_cons_erase hk).flatMap_right (fun i => wO1 g (r i) (f i))
  refine h.trans ?_
  show (wO1 g (r k) (f k) ++ wO g r f (l.erase k)).Perm _
  rw [hf]
  exact List.Perm.refl _
theorem wO_congr {g : kG} {r r' : Nat → Nat → Nat} {f f' : Nat → Option ShS} {l : List Nat} (h : ∀ i ∈ l, f i = f' i ∧ r i = r' i) : wO g r f l = wO g r' f' l := by
  unfold wO
  induction l with
  | nil => rfl
  | cons i l ih =>
    rw [List.flatMap_cons, List.flatMap_cons, (h i List.mem_cons_self).1, (h i List.mem_cons_self).2, ih (fun j hj => h j (List.mem_cons_of_mem _ hj))]
theorem vu_self {α : Type} (f : Nat → α) (k : Nat) (v : α) : va_up f k v k = v := if_pos rfl
theorem vu_ne {α : Type} (f : Nat → α) {k j : Nat} (v : α) (h : j ≠ k) : va_up f k v j = f j := if_neg h
theorem wO_in {g : kG} {r r' : Nat → Nat → Nat} {f : Nat → Option ShS} {k : Nat} (v : ShS) {l : List Nat} (hn : l.Nodup) (hk : k ∈ l) (hr : ∀ i, i ≠ k → r i = r' i) : (wSh g (r' k) v ++ wO g r f (l.erase k)).Perm (wO g r' (va_up f k (some v)) l) := by
  refine List.Perm.symm ((wO_out hk (vu_self f k (some v))).trans ?_)
  rw [wO_congr (r := r') (r' := r) (f := va_up f k (some v)) (f' := f) (l := l.erase k) (fun i hi => by
    have : i ≠ k := fun z => by subst z; exact (List.Nodup.not_mem_erase hn) hi
    exact ⟨vu_ne f _ this, (hr i this).symm⟩)]
theorem oRow_up {r r' : Nat → Nat → Nat} {f : Nat → Option ShS} {k : Nat} {v : ShS} (hr : ∀ i, i ≠ k → r i = r' i) : oRow r' (va_up f k (some v)) = va_up (oRow r f) k (some (r' k 0)) := by
  funext i
  by_cases h : i = k
  · subst h
    rw [vu_self]
    show (va_up f i (some v) i).map _ = _
    rw [vu_self]
    rfl
  · rw [vu_ne _ _ h]
    show (va_up f k (some v) i).map _ = (f i).map _
    rw [vu_ne _ _ h, hr i h]
theorem oRow_same {r : Nat → Nat → Nat} {f : Nat → Option ShS} {k : Nat} {v w : ShS} (hf : f k = some w) : oRow r (va_up f k (some v)) = oRow r f := by
  funext i
  by_cases h : i = k
  · subst h
    show (va_up f i (some v) i).map _ = (f i).map _
    rw [vu_self, hf]
    rfl
  · show (va_up f k (some v) i).map _ = (f i).map _
    rw [vu_ne _ _ h]
theorem pm_A {α : Type} {O B E : List α} (Hd A : List α) (h : O.Perm (B ++ E)) : ((Hd ++ O) ++ A).Perm ((A ++ B) ++ (Hd ++ E)) := by
  have h1 : ((Hd ++ O) ++ A).Perm (A ++ (Hd ++ (B ++ E))) := (List.perm_append_comm).trans ((h.append_left Hd).append_left A)
  refine h1.trans ?_
  rw [List.append_assoc]
  exact (List.perm_append_comm_assoc Hd B E).append_left A
theorem pm_B {α : Type} {O B E : List α} (Hd A : List α) (h : O.Perm (B ++ E)) : ((Hd ++ E) ++ (A ++ B)).Perm ((Hd ++ O) ++ A) := (List.perm_append_comm).trans (pm_A Hd A h).symm
theorem pm_A2 {α : Type} {O B E : List α} (Hd A : List α) (h : O.Perm (B ++ E)) : ((Hd ++ O) ++ A).Perm ((B ++ A) ++ (Hd ++ E)) := (pm_A Hd A h).trans ((List.perm_append_comm).append_right _)
theorem pm_B2 {α : Type} {O B E : List α} (Hd A : List α) (h : O.Perm (B ++ E)) : ((Hd ++ E) ++ (B ++ A)).Perm ((Hd ++ O) ++ A) := (List.perm_append_comm).trans (pm_A2 Hd A h).symm
theorem mem6 {i : Nat} (h : i < 6) : i ∈ [0, 1, 2, 3, 4, 5] := by
  match i, h with
  | 0, _ => decide
  | 1, _ => decide
  | 2, _ => decide
  | 3, _ => decide
  | 4, _ => decide
  | 5, _ => decide
theorem inb_lt {i : Int32} {n : Nat} (h : inb i n = true) : i.toNatClampNeg < n := Nat.not_le.mp fun q => inb_in h (Or.inr q)
noncomputable def fX0_size (hs : HS) : Option Int32 := some hs.2.2
def hsShift (hs : HS) : HS := if hs.2.2 = 6 then (hs.1, (hs.2.1 + 1) - (hs.2.1 + 1) / 6 * 6, hs.2.2 - 1) else hs
def hsPlace (x : Int32) : Int32 := x - x / 6 * 6
noncomputable def fX0_put (hs : HS) (u : ShS) (x : Int32) : Option HS :=
  if x < 0 then some hs else if 6 ≤ x then some hs else
  gd (inb x 6) ((fX1_copyFrom ((hs.1 x.toNatClampNeg).getD ShNew) u).bind fun v => some (va_up hs.1 x.toNatClampNeg (some v), hs.2.1, hs.2.2 + 1))
noncomputable def fX0_save (hs : HS) (u : ShS) : Option HS := fX0_put (hsShift hs) u (hsPlace ((hsShift hs).2.1 + (hsShift hs).2.2))
noncomputable def fX0_get (hs : HS) (u : ShS) (x : Int32) : Option (HS × ShS) :=
  if x < 0 then some (hs, u) else if 6 ≤ x then some (hs, u) else
  gd (inb x 6) ((Option.elim (hs.1 x.toNatClampNeg) (some u) (fun v => fX1_copyFrom u v)).bind fun u2 => some ((hs.1, hs.2.1, hs.2.2 - 1), u2))
noncomputable def fX0_restoreLast (hs : HS) (u : ShS) : Option (HS × ShS) := fX0_get hs u (hsPlace (hs.2.1 + hs.2.2 - 1))
abbrev rX0_save : Room := { frames := 6, cells := 13, slots := 389, locals := 230 }
theorem in_X0_save : ∀ w ∈ u_ws RX0 TX0 3, w ∈ wsX0_save := by decide +kernel
theorem in_X0_save1 : ∀ w ∈ u_ws RX1 TX1 6, w ∈ wsX0_save := by decide +kernel
theorem fl_X0_sv : (Cond.fieldLink RX0 17 "BrushStrokes$History" "size" "I") ∈ wsX0_save ∧ (Cond.fieldLink RX0 21 "BrushStrokes$History" "oldest" "I") ∈ wsX0_save ∧ (Cond.fieldLink RX0 11 "BrushStrokes$History" "ring" "[LBrushStrokes$Sheet;") ∈ wsX0_save := by decide +kernel
theorem cw_X0_save_X1_copyFrom {p : Program} {s : State} {m : MethodId} {args : Array Value} {meth : Method} {c : Code} {g : kG} {A : Nat → Prop} (C : CT g p s m args meth c RX0 cX0_save 4 none wsX0_save A) : CallW rX0_save s args RX0 RX1 25 yX1_copyFrom cX1_copyFrom 3 none wsX1_copyFrom rX1_copyFrom 0 0 1 := cwV 1 C.2.2.2.2.2.1 gX0_save_X1_copyFrom rfl rfl rfl (by decide +kernel) ⟨Nat.le_of_ble_eq_true rfl, Nat.le_of_ble_eq_true rfl⟩
theorem cw_X0_save_X1_init {p : Program} {s : State} {m : MethodId} {args : Array Value} {meth : Method} {c : Code} {g : kG} {A : Nat → Prop} (C : CT g p s m args meth c RX0 cX0_save 4 none wsX0_save A) : CallB rX0_save s args RX0 24 yX1_init cX1_init 2 none wsX1_init rX1_init 12 383 0 ∧ yX1_init.name = "<init>" ∧ (Cond.instanceMethod yX1_init).before args s = true := ⟨callB_of 0 C.2.2.2.2.2.1 gX0_save_X1_init rfl rfl rfl (C.2.2.2.2.2.1 _ (by decide +kernel)) (C.2.2.2.2.2.1 _ (by decide +kernel)) (by decide +kernel) ⟨Nat.le_of_ble_eq_true rfl, Nat.le_of_ble_eq_true rfl⟩, rfl, C.2.2.2.2.2.1 _ (by decide +kernel)⟩
set_option maxRecDepth 100000 in
set_option maxHeartbeats 4000000 in
theorem kX0_save (l : Launch) (g : kG) (h a : Nat → Nat) (r : Nat → Nat → Nat) (hs0 : HS) (u : ShS) (o : HS) (hm : fX0_save hs0 u = some o) : KX (S := Nat → Nat → Nat) l yX0_save wsX0_save rX0_save g [.ref (h 0), .ref (a 0)] (wH g h r hs0 ++ wSh g a u) (.inr (none, fun r2 => wH g h r2 o ++ wSh g a u)) 13 389 := by
  refine KX.of (nL := 4) (by decide) rfl (Nat.le_of_ble_eq_true rfl) ?_
  intro p e s m args below meth c A ls C htab X hl
  have C : CT g p s m args meth c RX0 cX0_save 4 none wsX0_save A := C
  have hx := C.1
  have hb := C.2.1
  have hl : lv_has ls 4 [(0, .ref (h 0)), (1, .ref (a 0))] := hl
  have hf17 := C.2.2.2.2.2.1 _ fl_X0_sv.1
  have hf21 := C.2.2.2.2.2.1 _ fl_X0_sv.2.1
  have hf11 := C.2.2.2.2.2.1 _ fl_X0_sv.2.2
  rw [fX0_save] at hm
  -- the call of copyFrom and what follows
  have tail : ∀ (r2 : Nat → Nat → Nat) (f2 : Nat → Option ShS) (w v : ShS) (x o1 z : Int32) (ce sl : Nat) (ls : Array Slot) (H : Heap) (locs : List Loc), inb x 6 = true → f2 x.toNatClampNeg = some w → fX1_copyFrom w u = some v → o = (va_up f2 x.toNatClampNeg (some v), o1, z + 1) → ce ≤ 13 → sl ≤ 389 → lv_has ls 4 [(3, .ref (r2 x.toNatClampNeg 0)), (2, .int x), (0, .ref (h 0)), (1, .ref (a 0))] → ST g A s H locs (wH g h r2 (f2, o1, z) ++ wSh g a u) → W p l e rX0_save s m args below meth c H locs ce sl (kEndX g below args s (.inr (none, fun r2 => wH g h r2 o ++ wSh g a u)) A 13 389) (F0 m 85 ls []) := by
    intro r2 f2 w v x o1 z ce sl ls H locs hgk hq hcl eo hce hsl hl X
    refine W.widen hce hsl ?_
    refine lv_aload_n hx hb dX0_save_85 rfl (lv_at hl 0 rfl) ?_
    refine lv_aload_n hx hb dX0_save_86 rfl (lv_at hl 3 rfl) ?_
    have hO := wO_out (g := g) (r := r2) (f := f2) (mem6 (inb_lt hgk)) hq
    have hO2 := (wO_in (g := g) (r := r2) (r' := r2) (f := f2) v (by decide) (mem6 (inb_lt hgk)) (fun _ _ => rfl)).symm
    refine kVp _ (pm_A2 (wHH g h (oRow r2 f2) o1 z) (wSh g a u) hO) C X (kX1_copyFrom l g (r2 x.toNatClampNeg) a w u v hcl) (cw_X0_save_X1_copyFrom C) 0 (ci := 1) rfl rfl (As := [.ref (a 0)]) rfl hl (rest := []) rfl (Nat.le_of_ble_eq_true rfl) (st2 := []) rfl dX0_save_87 ⟨Nat.le_of_ble_eq_true rfl, Nat.le_of_ble_eq_true rfl⟩ (w3 := wH g h r2 (va_up f2 x.toNatClampNeg (some v), o1, z) ++ wSh g a u) (by
      rw [show wH g h r2 (va_up f2 x.toNatClampNeg (some v), o1, z) = wHH g h (oRow r2 f2) o1 z ++ wO g r2 (va_up f2 x.toNatClampNeg (some v)) [0, 1, 2, 3, 4, 5] by rw [← oRow_same (r := r2) (v := v) hq]]
      exact pm_B2 (wHH g h (oRow r2 f2) o1 z) (wSh g a u) hO2) (fun H locs X => ?_)
    refine lv_aload_n hx hb dX0_save_90 rfl (lv_at hl 2 rfl) ?_
    refine lv_dup hx hb dX0_save_91 rfl ?_
    refine kget C X 0 (ci := 0) rfl rfl in_X0_save 2 (by decide) hf17 (v := .int z) rfl dX0_save_92 ?_
    refine lv_iconst (v := 1) hx hb dX0_save_95 (by decide) ?_
    refine lv_iadd hx hb dX0_save_96 ?_
    refine kput C X 0 (ci := 0) rfl rfl in_X0_save tyX0_ok nmX0 2 (by decide) hf17 rfl (ty := .int) (v := .int (z + 1)) rfl rfl rfl (Nat.le_of_ble_eq_true rfl) (w2 := wH g h r2 (va_up f2 x.toNatClampNeg (some v), o1, z + 1) ++ wSh g a u) rfl dX0_save_97 (fun H locs X => ?_)
    rw [← eo] at X
    exact kxret (w2 := fun r2 => wH g h r2 o ++ wSh g a u) r2 (Nat.le_refl _) (Nat.le_refl _) (kvret C X dX0_save_100)
  have mid : ∀ (hs : HS) (ls : Array Slot) (H : Heap) (locs : List Loc), fX0_put hs u (hsPlace (hs.2.1 + hs.2.2)) = some o → lv_has ls 4 [(0, .ref (h 0)), (1, .ref (a 0))] → ST g A s H locs (wH g h r hs ++ wSh g a u) → W p l e rX0_save s m args below meth c H locs 0 0 (kEndX g below args s (.inr (none, fun r2 => wH g h r2 o ++ wSh g a u)) A 13 389) (F0 m 32 ls []) := by
    intro hs ls H locs hm hl X
    refine lv_aload_n hx hb dX0_save_32 rfl (lv_at hl 0 rfl) ?_
    refine kget C X 0 (ci := 0) rfl rfl in_X0_save 1 (by decide) hf21 (v := .int hs.2.1) rfl dX0_save_33 ?_
    refine lv_aload_n hx hb dX0_save_36 rfl (lv_at hl 0 rfl) ?_
    refine kget C X 0 (ci := 0) rfl rfl in_X0_save 2 (by decide) hf17 (v := .int hs.2.2) rfl dX0_save_37 ?_
    refine lv_iadd hx hb dX0_save_40 ?_
    refine lv_bipush (v := 6) hx hb dX0_save_41 (by decide) ?_
    refine lv_irem hx hb dX0_save_43 (by decide) ?_
    refine lv_istore_n (lv' := [(2, .int (hsPlace (hs.2.1 + hs.2.2))), (0, .ref (h 0)), (1, .ref (a 0))]) hx hb dX0_save_44 rfl hl (by decide) rfl (fun ls hl => ?_)
    generalize hsPlace (hs.2.1 + hs.2.2) = x at hm hl
    rw [fX0_put] at hm
    refine lv_iload_n hx hb dX0_save_45 rfl (lv_at hl 0 rfl) ?_
    refine lv_if_lt (tgt := 58) hx hb dX0_save_46 (by decide) (fun hc => ?_) (fun hc => ?_)
    · cases sm (ifp hc hm)
      exact kxret (w2 := fun r2 => wH g h r2 o ++ wSh g a u) r (Nat.zero_le _) (Nat.zero_le _) (kvret C X dX0_save_58)
    have hm := ifn hc hm
    refine lv_iload_n hx hb dX0_save_49 rfl (lv_at hl 0 rfl) ?_
    refine lv_aload_n hx hb dX0_save_50 rfl (lv_at hl 1 rfl) ?_
    refine kget C X 0 (ci := 0) rfl rfl in_X0_save 0 (by decide) hf11 (v := .ref (h 1)) rfl dX0_save_51 ?_
    refine kalenH C X 1 rfl (v := 6) rfl dX0_save_54 ?_
    refine lv_icmp_lt (tgt := 59) hx hb dX0_save_55 (by decide) (fun hc2 => ?_) (fun hc2 => ?_)
    rotate_left
    · cases sm (ifp (Int32.not_lt.mp hc2) hm)
      exact kxret (w2 := fun r2 => wH g h r2 o ++ wSh g a u) r (Nat.zero_le _) (Nat.zero_le _) (kvret C X dX0_save_58)
    have hm := ifn (Int32.not_le.mpr hc2) hm
    obtain ⟨hgk, hm⟩ := gd_t hm
    obtain ⟨v, hcl, hm⟩ := bnd hm
    have eo := (sm hm).symm
    have hk6 := mem6 (inb_lt hgk)
    refine lv_aload_n hx hb dX0_save_59 rfl (lv_at hl 1 rfl) ?_
    refine kget C X 0 (ci := 0) rfl rfl in_X0_save 0 (by decide) hf11 (v := .ref (h 1)) rfl dX0_save_60 ?_
    refine lv_iload_n hx hb dX0_save_63 rfl (lv_at hl 0 rfl) ?_
    cases hq : hs.1 x.toNatClampNeg with
    | some w =>
      rw [hq] at hcl
      refine kaldH C X 1 rfl hgk (v := .ref (r x.toNatClampNeg 0)) (by show va_rf ((hs.1 _).map _) = _; rw [hq]; rfl) dX0_save_64 ?_
      refine lv_astore_n (lv' := [(3, .ref (r x.toNatClampNeg 0)), (2, .int x), (0, .ref (h 0)), (1, .ref (a 0))]) hx hb dX0_save_65 rfl hl (by decide) rfl (fun ls hl => ?_)
      refine lv_aload_n hx hb dX0_save_66 rfl (lv_at hl 0 rfl) ?_
      refine lv_ifnonnull (tgt := 85) hx hb dX0_save_67 (by decide) ?_
      exact tail r hs.1 w v x hs.2.1 hs.2.2 0 0 ls H locs hgk hq hcl eo (Nat.zero_le _) (Nat.zero_le _) hl X
    | none =>
      rw [hq] at hcl
      refine kaldH C X 1 rfl hgk (v := .null) (by show va_rf ((hs.1 _).map _) = _; rw [hq]; rfl) dX0_save_64 ?_
      refine lv_astore_nN (lv' := [(3, .null), (2, .int x), (0, .ref (h 0)), (1, .ref (a 0))]) hx hb dX0_save_65 rfl hl (by decide) rfl (fun ls hl => ?_)
      refine lv_aload_nN hx hb dX0_save_66 rfl (lv_at hl 0 rfl) ?_
      refine lv_ifnonnullN hx hb dX0_save_67 ?_
      refine knew (ci := 1) [.null, .null, .null, .int 0, .int 0, .int 0] C X rfl in_X0_save1 tyX1_ok (by decide +kernel) (by decide +kernel) (Nat.le_of_ble_eq_true rfl) (Nat.le_of_ble_eq_true rfl) dX0_save_70 (fun q H X => ?_)
      refine lv_dup hx hb dX0_save_73 rfl ?_
      refine keI (As := []) (wH g h r hs ++ wSh g a u) (List.perm_append_comm) C X (kX1_init l g q) (cw_X0_save_X1_init C) rfl hl rfl (Nat.le_of_ble_eq_true rfl) dX0_save_74 ⟨Nat.le_of_ble_eq_true rfl, Nat.le_of_ble_eq_true rfl⟩ (w4 := fun b => wHH g h (oRow r hs.1) hs.2.1 hs.2.2 ++ (wSh g (ad0 q b) ShNew ++ (wO g r hs.1 ([0, 1, 2, 3, 4, 5].erase x.toNatClampNeg) ++ wSh g a u))) (fun b => by
        have hO := wO_none (g := g) (r := r) hk6 hq
        refine (((hO.append_left _).append_right _).append_right _).trans ?_
        rw [List.append_assoc, List.append_assoc]
        refine List.Perm.append_left _ ?_
        rw [← List.append_assoc]
        exact List.perm_append_comm) (fun b H locs X => ?_)
      refine lv_astore_n (lv' := [(3, .ref q), (2, .int x), (0, .ref (h 0)), (1, .ref (a 0))]) hx hb dX0_save_77 rfl hl (by decide) rfl (fun ls hl => ?_)
      refine lv_aload_n hx hb dX0_save_78 rfl (lv_at hl 2 rfl) ?_
      refine kget C X 0 (ci := 0) rfl rfl in_X0_save 0 (by decide) hf11 (v := .ref (h 1)) rfl dX0_save_79 ?_
      refine lv_iload_n hx hb dX0_save_82 rfl (lv_at hl 1 rfl) ?_
      refine lv_aload_n hx hb dX0_save_83 rfl (lv_at hl 0 rfl) ?_
      refine kastH C X 1 2 rfl rfl hgk (w3 := wHH g h (va_up (oRow r hs.1) x.toNatClampNeg (some q)) hs.2.1 hs.2.2 ++ (wSh g (ad0 q b) ShNew ++ (wO g r hs.1 ([0, 1, 2, 3, 4, 5].erase x.toNatClampNeg) ++ wSh g a u))) rfl dX0_save_84 (fun H locs X => ?_)
      have hr2 : ∀ i, i ≠ x.toNatClampNeg → r i = va_up r x.toNatClampNeg (ad0 q b) i := fun i hi => (vu_ne r _ hi).symm
      have hrk : va_up r x.toNatClampNeg (ad0 q b) x.toNatClampNeg = ad0 q b := vu_self r _ _
      have hO2 := wO_in (g := g) (r := r) (r' := va_up r x.toNatClampNeg (ad0 q b)) (f := hs.1) ShNew (by decide) hk6 hr2
      rw [hrk] at hO2
      have hrow := oRow_up (r := r) (r' := va_up r x.toNatClampNeg (ad0 q b)) (f := hs.1) (k := x.toNatClampNeg) (v := ShNew) hr2
      rw [hrk] at hrow
      have X2 : ST g A s H locs (wH g h (va_up r x.toNatClampNeg (ad0 q b)) (va_up hs.1 x.toNatClampNeg (some ShNew), hs.2.1, hs.2.2) ++ wSh g a u) := by
        refine X.perm ?_
        show List.Perm _ ((wHH g h (oRow (va_up r x.toNatClampNeg (ad0 q b)) (va_up hs.1 x.toNatClampNeg (some ShNew))) hs.2.1 hs.2.2 ++ _) ++ _)
        rw [hrow, List.append_assoc]
        refine List.Perm.append_left _ ?_
        rw [← List.append_assoc]
        exact hO2.append_right _
      have h3 : Value.ref q = .ref (va_up r x.toNatClampNeg (ad0 q b) x.toNatClampNeg 0) := by rw [hrk]; rfl
      rw [h3] at hl
      refine tail (va_up r x.toNatClampNeg (ad0 q b)) (va_up hs.1 x.toNatClampNeg (some ShNew)) ShNew v x hs.2.1 hs.2.2 13 389 ls H locs hgk (vu_self _ _ _) hcl ?_ (Nat.le_refl _) (Nat.le_refl _) hl X2
      rw [eo]
      refine congrArg (fun f => (f, hs.2.1, hs.2.2 + 1)) ?_
      funext i
      by_cases hi : i = x.toNatClampNeg
      · subst hi
        rw [vu_self, vu_self]
      · rw [vu_ne _ _ hi, vu_ne _ _ hi, vu_ne _ _ hi]
  refine lv_aload_n hx hb dX0_save_0 rfl (lv_at hl 0 rfl) ?_
  refine kget C X 0 (ci := 0) rfl rfl in_X0_save 2 (by decide) hf17 (v := .int hs0.2.2) rfl dX0_save_1 ?_
  refine lv_bipush (v := 6) hx hb dX0_save_4 (by decide) ?_
  refine lv_icmp_ne (tgt := 32) hx hb dX0_save_6 (by decide) (fun hc => ?_) (fun hc => ?_)
  · have hh : hsShift hs0 = hs0 := if_neg hc
    rw [hh] at hm
    exact mid hs0 ls _ _ hm hl X
  · have hh : hsShift hs0 = (hs0.1, (hs0.2.1 + 1) - (hs0.2.1 + 1) / 6 * 6, hs0.2.2 - 1) := if_pos hc
    rw [hh] at hm
    refine lv_aload_n hx hb dX0_save_9 rfl (lv_at hl 0 rfl) ?_
    refine lv_aload_n hx hb dX0_save_10 rfl (lv_at hl 0 rfl) ?_
    refine kget C X 0 (ci := 0) rfl rfl in_X0_save 1 (by decide) hf21 (v := .int hs0.2.1) rfl dX0_save_11 ?_
    refine lv_iconst (v := 1) hx hb dX0_save_14 (by decide) ?_
    refine lv_iadd hx hb dX0_save_15 ?_
    refine lv_bipush (v := 6) hx hb dX0_save_16 (by decide) ?_
    refine lv_irem hx hb dX0_save_18 (by decide) ?_
    refine kput C X 0 (ci := 0) rfl rfl in_X0_save tyX0_ok nmX0 1 (by decide) hf21 rfl (ty := .int) rfl rfl rfl (Nat.le_of_ble_eq_true rfl) (w2 := wH g h r (hs0.1, (hs0.2.1 + 1) - (hs0.2.1 + 1) / 6 * 6, hs0.2.2) ++ wSh g a u) rfl dX0_save_19 (fun H locs X => ?_)
    refine lv_aload_n hx hb dX0_save_22 rfl (lv_at hl 0 rfl) ?_
    refine lv_dup hx hb dX0_save_23 rfl ?_
    refine kget C X 0 (ci := 0) rfl rfl in_X0_save 2 (by decide) hf17 (v := .int hs0.2.2) rfl dX0_save_24 ?_
    refine lv_iconst (v := 1) hx hb dX0_save_27 (by decide) ?_
    refine lv_isub hx hb dX0_save_28 ?_
    refine kput C X 0 (ci := 0) rfl rfl in_X0_save tyX0_ok nmX0 2 (by decide) hf17 rfl (ty := .int) rfl rfl rfl (Nat.le_of_ble_eq_true rfl) (w2 := wH g h r (hs0.1, (hs0.2.1 + 1) - (hs0.2.1 + 1) / 6 * 6, hs0.2.2 - 1) ++ wSh g a u) rfl dX0_save_29 (fun H locs X => ?_)
    exact mid _ ls _ _ hm hl X
