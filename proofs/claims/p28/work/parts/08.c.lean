theorem se_r {α β γ : Type} {f : α → Option γ} {k : β → Option γ} {v : β} {o : γ} (h : Sum.elim f k (.inr v) = some o) : k v = some o := h
theorem se_l {α β γ : Type} {f : α → Option γ} {k : β → Option γ} {v : α} {o : γ} (h : Sum.elim f k (.inl v) = some o) : f v = some o := h
theorem pm_wh {α : Type} (ws : List α) : ws.Perm (ws ++ []) := by rw [List.append_nil]
theorem pm_wi {α : Type} (ws : List α) : ([] ++ ws).Perm ws := List.Perm.refl _
theorem pm_no {α : Type} (ws : List α) : ws.Perm ([] ++ ws) := List.Perm.refl _
theorem pm_ni {α : Type} (ws : List α) : (ws ++ []).Perm ws := by rw [List.append_nil]
def kf0 : Nat → Int32 := fun j => match j with | 0 => 3 | 1 => 50 | 2 => 4 | _ => 20
def kf1 : Nat → Int32 := fun j => match j with | 2 => 1 | _ => 0
def kf2 : Nat → Int32 := fun j => match j with | 0 => 50 | 1 => 100 | 2 => 20 | _ => 100
section KU
variable {p : Program} {l : Launch} {e : Env} {R : Room} {s : State} {m : MethodId} {args : Array Value} {below : List Frame} {meth : Method} {c : Code} {H : Heap} {locs : List Loc} {cells slots : Nat} {Q : State → Prop}
variable {g : kG} {A : Nat → Prop} {own : String} {cc : ByteArray} {nL : Nat} {ret : Option FieldType} {Ts : List Cond} {pc : Nat} {ls : Array Slot} {rest : List Value} {ws w2 : va_W} {lv : List (Nat × Value)} {index : Nat}
theorem kgets0 (C : CT g p s m args meth c own cc nL ret Ts A) (X : ST g A s H locs ws) (hlink : (Cond.fieldLink own index "BrushStrokes" "FIRST_VALUES" "[I").before args s = true) (hdg : decode cc pc = .ok (.getstatic index, 3)) (kk : W p l e R s m args below meth c H locs cells slots Q (F0 m (pc + 3) ls (.ref g.2.2.1 :: rest))) : W p l e R s m args below meth c H locs cells slots Q (F0 m pc ls rest) :=
  va_gets C.1 C.2.1 C.2.2.2.2.2.2.2.1.2.2.1.1.1 X.2.2 C.2.2.2.2.1 hlink (fun _ h => h) hdg kk
theorem kgets1 (C : CT g p s m args meth c own cc nL ret Ts A) (X : ST g A s H locs ws) (hlink : (Cond.fieldLink own index "BrushStrokes" "LEAST_VALUES" "[I").before args s = true) (hdg : decode cc pc = .ok (.getstatic index, 3)) (kk : W p l e R s m args below meth c H locs cells slots Q (F0 m (pc + 3) ls (.ref g.2.2.2.1 :: rest))) : W p l e R s m args below meth c H locs cells slots Q (F0 m pc ls rest) :=
  va_gets C.1 C.2.1 C.2.2.2.2.2.2.2.1.2.2.1.1.2.1 X.2.2 C.2.2.2.2.1 hlink (fun _ h => h) hdg kk
theorem kgets2 (C : CT g p s m args meth c own cc nL ret Ts A) (X : ST g A s H locs ws) (hlink : (Cond.fieldLink own index "BrushStrokes" "GREATEST_VALUES" "[I").before args s = true) (hdg : decode cc pc = .ok (.getstatic index, 3)) (kk : W p l e R s m args below meth c H locs cells slots Q (F0 m (pc + 3) ls (.ref g.2.2.2.2 :: rest))) : W p l e R s m args below meth c H locs cells slots Q (F0 m pc ls rest) :=
  va_gets C.1 C.2.1 C.2.2.2.2.2.2.2.1.2.2.1.1.2.2 X.2.2 C.2.2.2.2.1 hlink (fun _ h => h) hdg kk
theorem kslen0 (C : CT g p s m args meth c own cc nL ret Ts A) (X : ST g A s H locs ws) (hdg : decode cc pc = .ok (.arraylength, 1)) (kk : W p l e R s m args below meth c H locs cells slots Q (F0 m (pc + 1) ls (.int 4 :: rest))) : W p l e R s m args below meth c H locs cells slots Q (F0 m pc ls (.ref g.2.2.1 :: rest)) :=
  va_tlen C.1 C.2.1 C.2.2.2.2.2.2.2.1.2.2.1.2.1 X.2.2 (v := 4) rfl hdg kk
theorem kslen1 (C : CT g p s m args meth c own cc nL ret Ts A) (X : ST g A s H locs ws) (hdg : decode cc pc = .ok (.arraylength, 1)) (kk : W p l e R s m args below meth c H locs cells slots Q (F0 m (pc + 1) ls (.int 4 :: rest))) : W p l e R s m args below meth c H locs cells slots Q (F0 m pc ls (.ref g.2.2.2.1 :: rest)) :=
  va_tlen C.1 C.2.1 C.2.2.2.2.2.2.2.1.2.2.1.2.2.1 X.2.2 (v := 4) rfl hdg kk
theorem kslen2 (C : CT g p s m args meth c own cc nL ret Ts A) (X : ST g A s H locs ws) (hdg : decode cc pc = .ok (.arraylength, 1)) (kk : W p l e R s m args below meth c H locs cells slots Q (F0 m (pc + 1) ls (.int 4 :: rest))) : W p l e R s m args below meth c H locs cells slots Q (F0 m pc ls (.ref g.2.2.2.2 :: rest)) :=
  va_tlen C.1 C.2.1 C.2.2.2.2.2.2.2.1.2.2.1.2.2.2 X.2.2 (v := 4) rfl hdg kk
theorem ksld1 (C : CT g p s m args meth c own cc nL ret Ts A) (X : ST g A s H locs ws) {i : Int32} (hin : inb i 4 = true) (hdg : decode cc pc = .ok (.iaload, 1)) (kk : W p l e R s m args below meth c H locs cells slots Q (F0 m (pc + 1) ls (.int (kf1 i.toNatClampNeg) :: rest))) : W p l e R s m args below meth c H locs cells slots Q (F0 m pc ls (.int i :: .ref g.2.2.2.1 :: rest)) :=
  va_ti C.1 C.2.1 C.2.2.2.2.2.2.2.1.2.2.1.2.2.1 X.2.2 (inb_in hin) (v := .int (kf1 i.toNatClampNeg)) rfl hdg kk
theorem ksld2 (C : CT g p s m args meth c own cc nL ret Ts A) (X : ST g A s H locs ws) {i : Int32} (hin : inb i 4 = true) (hdg : decode cc pc = .ok (.iaload, 1)) (kk : W p l e R s m args below meth c H locs cells slots Q (F0 m (pc + 1) ls (.int (kf2 i.toNatClampNeg) :: rest))) : W p l e R s m args below meth c H locs cells slots Q (F0 m pc ls (.int i :: .ref g.2.2.2.2 :: rest)) :=
  va_ti C.1 C.2.1 C.2.2.2.2.2.2.2.1.2.2.1.2.2.2 X.2.2 (inb_in hin) (v := .int (kf2 i.toNatClampNeg)) rfl hdg kk
variable {y : MethodName} {bytes : ByteArray} {maxL n : Nat} {rt : Option FieldType} {wsY : List Cond} {rm : Room} {As st0 st2 : List Value} {r : Option Value}
theorem kS0c (C : CT g p s m args meth c own cc nL ret Ts A) (X : ST g A s H locs ws) (hM : KM l y wsY rm g As [] r [] 0 0) (cw : CallB R s args own index y bytes maxL rt wsY rm 0 0 n ∧ (Cond.static y).before args s = true) (hlen : As.length = n) (hl : lv_has ls nL lv) (hst : st0 = As.reverse ++ rest) (hroom : (rest.map fun v => v.category).sum ≤ 8) (hst2 : r.toList ++ rest = st2) (hdg : decode cc pc = .ok (.invokestatic index, 3)) (hf : cells + 0 ≤ R.cells ∧ slots + 0 ≤ R.slots)
    (kk : ∀ (H1 : Heap) (locs1 : List Loc), ST g A s H1 locs1 ws → W p l e R s m args below meth c H1 locs1 cells slots Q (F0 m (pc + 3) ls st2)) : W p l e R s m args below meth c H locs cells slots Q (F0 m pc ls st0) :=
  kS (isC := []) (isR := List.range ws.length) (wr := ws) C X hM cw rfl rfl (k_all ws) (k_nd_range _) (fun i _ hi => by cases hi) hlen hl hst hroom hst2 hdg hf (fun H1 locs1 X1 => kk H1 locs1 (by rw [List.append_nil] at X1; exact X1))
theorem kdret {v : UInt64} (C : CT g p s m args meth c own cc nL (some .double) Ts A) (X : ST g A s H locs w2) (hdg : decode cc pc = .ok (.dreturn, 1)) : W p l e R s m args below meth c H locs cells slots (kEnd g below args s (some (.double v)) w2 A cells slots) (F0 m pc ls [.double v]) :=
  W.dret C.1 C.2.1 C.2.2.1 (fun t ht _ => ⟨⟨rfl, by rw [ht]; exact X.1, X.2.1⟩, X.2.2.F ht⟩) X.2.2.2.2 hdg (hlocks := C.2.2.2.2.2.2.1)
end KU
