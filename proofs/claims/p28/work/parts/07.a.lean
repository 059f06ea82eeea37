-- perms of worlds
theorem ST.perm {g : kG} {A : Nat → Prop} {s : State} {H : Heap} {locs : List Loc} {ws ws' : va_W} (X : ST g A s H locs ws) (h : ws.Perm ws') : ST g A s H locs ws' := by
  have hnd : (ws.map Prod.fst).Nodup := by
    refine List.pairwise_iff_getElem.mpr (fun i j hi hj hij => ?_)
    rw [List.length_map] at hi hj
    rw [List.getElem_map, List.getElem_map]
    intro h1
    have := X.2.1.1 i j ws[i] ws[j] (List.getElem?_eq_getElem hi) (List.getElem?_eq_getElem hj) h1
    omega
  have hnd' : (ws'.map Prod.fst).Nodup := (List.Perm.nodup_iff (h.map Prod.fst)).mp hnd
  refine ⟨fun k q hq => ?_, ⟨fun i j p q hp hq he => ?_, fun k q hq => ?_⟩, X.2.2⟩
  · obtain ⟨i, hi⟩ := List.getElem?_of_mem (h.mem_iff.mpr (List.mem_of_getElem? hq))
    exact X.1 i q hi
  · obtain ⟨li, hpi⟩ := List.getElem?_eq_some_iff.mp hp
    obtain ⟨lj, hqj⟩ := List.getElem?_eq_some_iff.mp hq
    have key := List.pairwise_iff_getElem.mp hnd'
    rcases Nat.lt_trichotomy i j with z | z | z
    · refine absurd ?_ (key i j (by rw [List.length_map]; exact li) (by rw [List.length_map]; exact lj) z)
      rw [List.getElem_map, List.getElem_map, hpi, hqj]; exact he
    · exact z
    · refine absurd ?_ (key j i (by rw [List.length_map]; exact lj) (by rw [List.length_map]; exact li) z)
      rw [List.getElem_map, List.getElem_map, hpi, hqj]; exact he.symm
  · obtain ⟨i, hi⟩ := List.getElem?_of_mem (h.mem_iff.mpr (List.mem_of_getElem? hq))
    exact X.2.1.2 i q hi
theorem k_appL (wc wr : va_W) : (List.range wc.length).map (fun i => (wc ++ wr)[i]?) = wc.map some := by
  rw [← k_all wc]
  apply List.map_congr_left
  intro i hi
  rw [List.mem_range] at hi
  exact List.getElem?_append_left hi
theorem k_appR (wc wr : va_W) : ((List.range wr.length).map (fun i => wc.length + i)).map (fun i => (wc ++ wr)[i]?) = wr.map some := by
  rw [← k_all wr, List.map_map]
  apply List.map_congr_left
  intro i hi
  show (wc ++ wr)[wc.length + i]? = wr[i]?
  rw [List.getElem?_append_right (by omega)]
  congr 1
  omega
theorem k_nd_shift (a n : Nat) : va_nd ((List.range n).map (fun i => a + i)) = true := by
  have key : ∀ l : List Nat, l.Nodup → va_nd l = true := by
    intro l
    induction l with
    | nil => intro _; rfl
    | cons a l ih =>
      intro h
      rw [List.nodup_cons] at h
      simp [va_nd, h.1, ih h.2]
  apply key
  exact List.Pairwise.map (fun i => a + i) (fun i j h => by omega) List.nodup_range
section KP
variable {p : Program} {l : Launch} {e : Env} {R : Room} {s : State} {m : MethodId} {args : Array Value} {below : List Frame} {meth : Method} {c : Code} {H : Heap} {locs : List Loc} {cells slots : Nat} {Q : State → Prop}
variable {g : kG} {A : Nat → Prop} {own : String} {cc : ByteArray} {nL : Nat} {ret : Option FieldType} {Ts : List Cond} {pc : Nat} {ls : Array Slot} {rest : List Value} {ws w2 w3 : va_W}
variable {y : MethodName} {bytes : ByteArray} {maxL n index mc ms : Nat} {rt : Option FieldType} {wsY : List Cond} {rm : Room} {Cn : String} {b : Nat} {As st0 st2 : List Value} {r : Option Value} {wc wr : va_W} {lv : List (Nat × Value)}
/-- an instance call on a part of the world -/
theorem kVp {ci : Nat} {fs : List Value} {T : u_T} {N : Nat} (wr : va_W) (hp : ws.Perm (wc ++ wr)) (C : CT g p s m args meth c own cc nL ret Ts A) (X : ST g A s H locs ws) (hM : KM l y wsY rm g (.ref b :: As) wc r w2 mc ms) (cw : CallW R s args own Cn index y bytes maxL rt wsY rm mc ms n) (q0 : Nat) (he : wc[q0]? = some (b, .inr (ci, fs))) (hc : vwCl[ci]? = some (Cn, T, N)) (hlen : As.length = n) (hl : lv_has ls nL lv) (hst : st0 = As.reverse ++ .ref b :: rest) (hroom : (rest.map fun v => v.category).sum ≤ 8) (hst2 : r.toList ++ rest = st2) (hdg : decode cc pc = .ok (.invokevirtual index, 3)) (hf : cells + mc ≤ R.cells ∧ slots + ms ≤ R.slots) (hp2 : (wr ++ w2).Perm w3)
    (kk : ∀ (H1 : Heap) (locs1 : List Loc), ST g A s H1 locs1 w3 → W p l e R s m args below meth c H1 locs1 (cells + mc) (slots + ms) Q (F0 m (pc + 3) ls st2)) : W p l e R s m args below meth c H locs cells slots Q (F0 m pc ls st0) :=
  kV (isC := List.range wc.length) (isR := (List.range wr.length).map (fun i => wc.length + i)) (wr := wr) (nx := 0) C (X.perm hp) hM cw q0 (by rw [List.getElem?_append_left (List.getElem?_eq_some_iff.mp he).1]; exact he) hc (k_appL wc wr) (k_nd_range _) (k_appR wc wr) (k_nd_shift _ _) (fun i hi hj => by
    obtain ⟨k, -, rfl⟩ := List.mem_map.mp hi
    rw [List.mem_range] at hj
    omega) hlen hl hst hroom hst2 hdg hf (fun H1 locs1 X1 => kk H1 locs1 (X1.perm hp2))
theorem kNp {host : String} (wr : va_W) (hp : ws.Perm (wc ++ wr)) (C : CT g p s m args meth c own cc nL ret Ts A) (X : ST g A s H locs ws) (hM : KM l y wsY rm g As wc r w2 mc ms) (cw : va_CN R s args own index y host bytes maxL rt wsY rm mc ms n ∧ (Cond.static y).before args s = true ∧ True) (hlen : As.length = n) (hl : lv_has ls nL lv) (hst : st0 = As.reverse ++ rest) (hroom : (rest.map fun v => v.category).sum ≤ 8) (hst2 : r.toList ++ rest = st2) (hdg : decode cc pc = .ok (.invokestatic index, 3)) (hf : cells + mc ≤ R.cells ∧ slots + ms ≤ R.slots) (hp2 : (wr ++ w2).Perm w3)
    (kk : ∀ (H1 : Heap) (locs1 : List Loc), ST g A s H1 locs1 w3 → W p l e R s m args below meth c H1 locs1 (cells + mc) (slots + ms) Q (F0 m (pc + 3) ls st2)) : W p l e R s m args below meth c H locs cells slots Q (F0 m pc ls st0) :=
  kN (isC := List.range wc.length) (isR := (List.range wr.length).map (fun i => wc.length + i)) (wr := wr) C (X.perm hp) hM cw (k_appL wc wr) (k_nd_range _) (k_appR wc wr) (k_nd_shift _ _) (fun i hi hj => by
    obtain ⟨k, -, rfl⟩ := List.mem_map.mp hi
    rw [List.mem_range] at hj
    omega) hlen hl hst hroom hst2 hdg hf (fun H1 locs1 X1 => kk H1 locs1 (X1.perm hp2))
end KP
-- the sheet: its object, its two rows, five strokes (the fifth is the one without a place)
abbrev ShS : Type := (Nat → SS) × (Nat → Int32) × Int32 × Int32 × Int32
abbrev Sh_st (u : ShS) (i : Nat) : SS := u.1 i
abbrev Sh_values (u : ShS) : Nat → Int32 := u.2.1
abbrev Sh_strokeCount (u : ShS) : Int32 := u.2.2.1
abbrev Sh_simplified (u : ShS) : Int32 := u.2.2.2.1
abbrev Sh_dropped (u : ShS) : Int32 := u.2.2.2.2
def Sh_s_st (u : ShS) (i : Nat) (v : SS) : ShS := (fun j => if j = i then v else u.1 j, u.2)
abbrev Sh_s_values (u : ShS) (v : Nat → Int32) : ShS := (u.1, v, u.2.2)
abbrev Sh_s_strokeCount (u : ShS) (v : Int32) : ShS := (u.1, u.2.1, v, u.2.2.2)
abbrev Sh_s_simplified (u : ShS) (v : Int32) : ShS := (u.1, u.2.1, u.2.2.1, v, u.2.2.2.2)
abbrev Sh_s_dropped (u : ShS) (v : Int32) : ShS := (u.1, u.2.1, u.2.2.1, u.2.2.2.1, v)
abbrev sa (a : Nat → Nat) (i : Nat) : Nat → Nat := fun j => a (3 + 2 * i + j)
abbrev shRow (a : Nat → Nat) : Nat → Option Nat := fun k => some (a (3 + 2 * k))
abbrev wShH (g : kG) (a : Nat → Nat) (u : (Nat → Int32) × Int32 × Int32 × Int32) : va_W := [(a 0, .inr (1, [.ref (a 1), .ref (a 11), .ref (a 2), .int u.2.1, .int u.2.2.1, .int u.2.2.2])), (a 1, .inl (kSt g, 4, .inr (.inr (.inr (.inr (shRow a)))))), (a 2, .inl (kI g, 4, .inl u.1))]
def wShK (g : kG) (a : Nat → Nat) (f : Nat → SS) (l : List Nat) : va_W := l.flatMap (fun i => wS g (sa a i) (f i))
abbrev wSh (g : kG) (a : Nat → Nat) (u : ShS) : va_W := wShH g a u.2 ++ wShK g a u.1 [0, 1, 2, 3, 4]
theorem mem5 {i : Nat} (h : i < 5) : i ∈ [0, 1, 2, 3, 4] := by
  match i, h with
  | 0, _ => decide
  | 1, _ => decide
  | 2, _ => decide
  | 3, _ => decide
  | 4, _ => decide
theorem wShK_cons {g : kG} {a : Nat → Nat} {f : Nat → SS} {i : Nat} {l : List Nat} : wShK g a f (i :: l) = wS g (sa a i) (f i) ++ wShK g a f l := rfl
theorem wShK_perm {g : kG} {a : Nat → Nat} {f : Nat → SS} {l l' : List Nat} (h : l.Perm l') : (wShK g a f l).Perm (wShK g a f l') := h.flatMap_right _
theorem wShK_congr {g : kG} {a : Nat → Nat} {f f' : Nat → SS} {l : List Nat} (h : ∀ i ∈ l, f i = f' i) : wShK g a f l = wShK g a f' l := by
  unfold wShK
  induction l with
  | nil => rfl
  | cons i l ih =>
    rw [List.flatMap_cons, List.flatMap_cons, h i List.mem_cons_self, ih (fun j hj => h j (List.mem_cons_of_mem _ hj))]
/-- one stroke ahead of the rest -/
theorem wSh_out {g : kG} {a : Nat → Nat} {u : ShS} {i : Nat} (hi : i < 5) : (wSh g a u).Perm (wS g (sa a i) (Sh_st u i) ++ (wShH g a u.2 ++ wShK g a u.1 ([0, 1, 2, 3, 4].erase i))) := by
  refine ((wShK_perm (List.perm_cons_erase (mem5 hi))).append_left (wShH g a u.2)).trans ?_
  rw [wShK_cons]
  exact List.perm_append_comm_assoc _ _ _
theorem wSh_in {g : kG} {a : Nat → Nat} {u : ShS} {i : Nat} (hi : i < 5) (v : SS) : ((wShH g a u.2 ++ wShK g a u.1 ([0, 1, 2, 3, 4].erase i)) ++ wS g (sa a i) v).Perm (wSh g a (Sh_s_st u i v)) := by
  have hnd : [0, 1, 2, 3, 4].Nodup := by decide
  have e : wShK g a u.1 ([0, 1, 2, 3, 4].erase i) = wShK g a (Sh_s_st u i v).1 ([0, 1, 2, 3, 4].erase i) := by
    refine wShK_congr (fun j hj => ?_)
    have : j ≠ i := fun z => by subst z; exact (List.Nodup.not_mem_erase hnd) hj
    simp [Sh_s_st, this]
  rw [e]
  refine (List.perm_append_comm).trans ?_
  refine List.Perm.trans ?_ (wSh_out (g := g) (a := a) (u := Sh_s_st u i v) hi).symm
  have : Sh_st (Sh_s_st u i v) i = v := by simp [Sh_st, Sh_s_st]
  rw [this]
  exact List.Perm.refl _
theorem Sh_s_st_self (u : ShS) (i : Nat) : Sh_s_st u i (Sh_st u i) = u := by
  have : (fun j => if j = i then u.1 i else u.1 j) = u.1 := by
    funext j
    by_cases h : j = i
    · rw [if_pos h, h]
    · rw [if_neg h]
  show (fun j => if j = i then u.1 i else u.1 j, u.2) = u
  rw [this]
theorem wSh_in0 {g : kG} {a : Nat → Nat} {u : ShS} {i : Nat} (hi : i < 5) : ((wShH g a u.2 ++ wShK g a u.1 ([0, 1, 2, 3, 4].erase i)) ++ wS g (sa a i) (Sh_st u i)).Perm (wSh g a u) := by
  have h := wSh_in (g := g) (a := a) (u := u) hi (Sh_st u i)
  rw [Sh_s_st_self] at h
  exact h
/-- two strokes ahead of the rest -/
theorem wSh_out2 {g : kG} {a : Nat → Nat} {u : ShS} {i j : Nat} (hi : i < 5) (hj : j < 5) (hij : i ≠ j) : (wSh g a u).Perm ((wS g (sa a i) (Sh_st u i) ++ wS g (sa a j) (Sh_st u j)) ++ (wShH g a u.2 ++ wShK g a u.1 (([0, 1, 2, 3, 4].erase i).erase j))) := by
  refine (wSh_out hi).trans ?_
  rw [List.append_assoc]
  refine List.Perm.append_left _ ?_
  have hm : j ∈ [0, 1, 2, 3, 4].erase i := (List.mem_erase_of_ne (fun z => hij z.symm)).mpr (mem5 hj)
  refine ((wShK_perm (List.perm_cons_erase hm)).append_left (wShH g a u.2)).trans ?_
  rw [wShK_cons]
  exact List.perm_append_comm_assoc _ _ _
theorem wSh_in2 {g : kG} {a : Nat → Nat} {u : ShS} {i j : Nat} (hi : i < 5) (hj : j < 5) (hij : i ≠ j) (v : SS) : ((wShH g a u.2 ++ wShK g a u.1 (([0, 1, 2, 3, 4].erase i).erase j)) ++ (wS g (sa a i) v ++ wS g (sa a j) (Sh_st u j))).Perm (wSh g a (Sh_s_st u i v)) := by
  have hnd : [0, 1, 2, 3, 4].Nodup := by decide
  have e : wShK g a u.1 (([0, 1, 2, 3, 4].erase i).erase j) = wShK g a (Sh_s_st u i v).1 (([0, 1, 2, 3, 4].erase i).erase j) := by
    refine wShK_congr (fun k hk => ?_)
    have : k ≠ i := fun z => by subst z; exact (List.Nodup.not_mem_erase hnd) (List.mem_of_mem_erase hk)
    simp [Sh_s_st, this]
  rw [e]
  refine (List.perm_append_comm).trans ?_
  refine List.Perm.trans ?_ (wSh_out2 (g := g) (a := a) (u := Sh_s_st u i v) hi hj hij).symm
  have h1 : Sh_st (Sh_s_st u i v) i = v := by simp [Sh_st, Sh_s_st]
  have h2 : Sh_st (Sh_s_st u i v) j = Sh_st u j := by simp [Sh_st, Sh_s_st, Ne.symm hij]
  rw [h1, h2]
  exact List.Perm.refl _
theorem perm4 {α : Type} (x1 y1 x2 y2 : List α) : ((x1 ++ y1) ++ (x2 ++ y2)).Perm ((x1 ++ x2) ++ (y1 ++ y2)) := by
  rw [List.append_assoc, List.append_assoc]
  refine List.Perm.append_left _ ?_
  exact List.perm_append_comm_assoc _ _ _
theorem wShB_out {g : kG} {a b : Nat → Nat} {u w : ShS} {i j : Nat} (hi : i < 5) (hj : j < 5) : (wSh g a u ++ wSh g b w).Perm ((wS g (sa a i) (Sh_st u i) ++ wS g (sa b j) (Sh_st w j)) ++ ((wShH g a u.2 ++ wShK g a u.1 ([0, 1, 2, 3, 4].erase i)) ++ (wShH g b w.2 ++ wShK g b w.1 ([0, 1, 2, 3, 4].erase j)))) :=
  ((wSh_out hi).append (wSh_out hj)).trans (perm4 _ _ _ _)
theorem wShB_in {g : kG} {a b : Nat → Nat} {u w : ShS} {i j : Nat} (hi : i < 5) (hj : j < 5) (v : SS) : (((wShH g a u.2 ++ wShK g a u.1 ([0, 1, 2, 3, 4].erase i)) ++ (wShH g b w.2 ++ wShK g b w.1 ([0, 1, 2, 3, 4].erase j))) ++ (wS g (sa a i) v ++ wS g (sa b j) (Sh_st w j))).Perm (wSh g a (Sh_s_st u i v) ++ wSh g b w) :=
  (perm4 _ _ _ _).trans ((wSh_in hi v).append (wSh_in0 hj))
section KT
variable {p : Program} {l : Launch} {e : Env} {R : Room} {s : State} {m : MethodId} {args : Array Value} {below : List Frame} {meth : Method} {c : Code} {H : Heap} {locs : List Loc} {cells slots : Nat} {Q : State → Prop}
variable {g : kG} {A : Nat → Prop} {own : String} {cc : ByteArray} {nL : Nat} {ret : Option FieldType} {Ts : List Cond} {pc : Nat} {ls : Array Slot} {rest : List Value} {ws w2 : va_W} {lv : List (Nat × Value)}
theorem kaldS (C : CT g p s m args meth c own cc nL ret Ts A) (X : ST g A s H locs ws) (q0 : Nat) {a n : Nat} {f : Nat → Option Nat} (ha : ws[q0]? = some (a, .inl (kSt g, n, .inr (.inr (.inr (.inr f)))))) {i : Int32} (hin : inb i n = true) {v : Value} (hv : va_rf (f i.toNatClampNeg) = v) (hdg : decode cc pc = .ok (.aaload, 1))
    (kk : W p l e R s m args below meth c H locs cells slots Q (F0 m (pc + 1) ls (v :: rest))) : W p l e R s m args below meth c H locs cells slots Q (F0 m pc ls (.int i :: .ref a :: rest)) := by
  subst hv
  exact va_aldq C.1 C.2.1 C.2.2.2.2.2.2.2.1.1 X.1 q0 3 ha rfl (inb_in hin) hdg kk
theorem kaldH (C : CT g p s m args meth c own cc nL ret Ts A) (X : ST g A s H locs ws) (q0 : Nat) {a n : Nat} {f : Nat → Option Nat} (ha : ws[q0]? = some (a, .inl (kSh g, n, .inr (.inr (.inr (.inr f)))))) {i : Int32} (hin : inb i n = true) {v : Value} (hv : va_rf (f i.toNatClampNeg) = v) (hdg : decode cc pc = .ok (.aaload, 1))
    (kk : W p l e R s m args below meth c H locs cells slots Q (F0 m (pc + 1) ls (v :: rest))) : W p l e R s m args below meth c H locs cells slots Q (F0 m pc ls (.int i :: .ref a :: rest)) := by
  subst hv
  exact va_aldq C.1 C.2.1 C.2.2.2.2.2.2.2.1.1 X.1 q0 2 ha rfl (inb_in hin) hdg kk
theorem kalenS (C : CT g p s m args meth c own cc nL ret Ts A) (X : ST g A s H locs ws) (q0 : Nat) {a n : Nat} {f : Nat → Option Nat} (ha : ws[q0]? = some (a, .inl (kSt g, n, .inr (.inr (.inr (.inr f)))))) {v : Int32} (hv : Int32.ofNat n = v) (hdg : decode cc pc = .ok (.arraylength, 1))
    (kk : W p l e R s m args below meth c H locs cells slots Q (F0 m (pc + 1) ls (.int v :: rest))) : W p l e R s m args below meth c H locs cells slots Q (F0 m pc ls (.ref a :: rest)) :=
  va_alen C.1 C.2.1 C.2.2.2.2.2.2.2.1.1 X.1 q0 3 ha rfl hv hdg kk
theorem kalenH (C : CT g p s m args meth c own cc nL ret Ts A) (X : ST g A s H locs ws) (q0 : Nat) {a n : Nat} {f : Nat → Option Nat} (ha : ws[q0]? = some (a, .inl (kSh g, n, .inr (.inr (.inr (.inr f)))))) {v : Int32} (hv : Int32.ofNat n = v) (hdg : decode cc pc = .ok (.arraylength, 1))
    (kk : W p l e R s m args below meth c H locs cells slots Q (F0 m (pc + 1) ls (.int v :: rest))) : W p l e R s m args below meth c H locs cells slots Q (F0 m pc ls (.ref a :: rest)) :=
  va_alen C.1 C.2.1 C.2.2.2.2.2.2.2.1.1 X.1 q0 2 ha rfl hv hdg kk
theorem kcopy {index : Nat} (C : CT g p s m args meth c own cc nL ret Ts A) (X : ST g A s H locs ws) (hl : lv_has ls nL lv) (hlink : (Cond.methodLink own index arraycopyName) ∈ Ts ∧ (Cond.native arraycopyName) ∈ Ts ∧ (Cond.static arraycopyName) ∈ Ts ∧ (Cond.initialized "java/lang/System") ∈ Ts) (q0 q1 : Nat) {a0 a n0 n1 : Nat} {f f1 : Nat → Int32} (ha0 : ws[q0]? = some (a0, .inl (kI g, n0, .inl f))) (ha1 : ws[q1]? = some (a, .inl (kI g, n1, .inl f1))) {n : Int32} (hok : decide (¬ n < 0 ∧ n.toNatClampNeg ≤ n0 ∧ n.toNatClampNeg ≤ n1) = true)
    (hframes : 1 ≤ R.frames) (hlocals : (rest.map fun v => v.category).sum + (nativeFrameWords "java/lang/System" "arraycopy" 5 + 11) ≤ R.locals) (hw : ws.set q1 (a, .inl (kI g, n1, .inl (va_cpy f f1 0 0 n.toNatClampNeg))) = w2) (hdg : decode cc pc = .ok (.invokestatic index, 3))
    (kk : ∀ (H1 : Heap) (locs1 : List Loc), ST g A s H1 locs1 w2 → W p l e R s m args below meth c H1 locs1 cells slots Q (F0 m (pc + 3) ls rest)) : W p l e R s m args below meth c H locs cells slots Q (F0 m pc ls (.int n :: .int 0 :: .ref a :: .int 0 :: .ref a0 :: rest)) := by
  subst hw
  have hk := of_decide_eq_true hok
  have hts := C.2.2.2.2.2.1
  have h00 : (0 : Int32).toNatClampNeg = 0 := by decide
  have h4 : (0 : Int32).toNatClampNeg + n.toNatClampNeg ≤ n0 := by rw [h00, Nat.zero_add]; exact hk.2.1
  have h5 : (0 : Int32).toNatClampNeg + n.toNatClampNeg ≤ n1 := by rw [h00, Nat.zero_add]; exact hk.2.2
  have hz : ¬ (0 : Int32) < 0 := by decide
  exact va_copyi C.1 C.2.1 (C.2.2.2.1.trans hl.1.symm) C.2.2.2.2.1 (hts _ hlink.1) (hts _ hlink.2.1) (hts _ hlink.2.2.1) (hts _ hlink.2.2.2) C.2.2.2.2.2.2.2.1.1 X.1 X.2.1 X.2.2 q0 q1 0 0 ha0 ha1 rfl rfl rfl hz hz hk.1 h4 h5 (fun _ _ => rfl) hframes hlocals hdg (fun H1 locs1 h1 h2 h3 => kk H1 locs1 ⟨h1, h2, h3⟩)
end KT
