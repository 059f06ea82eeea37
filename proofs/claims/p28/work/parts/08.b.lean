-- blocks of a world
theorem blk_out {α : Type} : ∀ (Bs : List (List α)) (i : Nat) (h : i < Bs.length), Bs.flatten.Perm (Bs[i] ++ (Bs.eraseIdx i).flatten)
  | [], i, h => absurd h (Nat.not_lt_zero i)
  | x :: xs, 0, _ => List.Perm.refl _
  | x :: xs, i + 1, h => by
    have hi : i < xs.length := Nat.lt_of_succ_lt_succ h
    have ih := blk_out xs i hi
    show (x ++ xs.flatten).Perm (xs[i] ++ (x ++ (xs.eraseIdx i).flatten))
    exact (ih.append_left x).trans (List.perm_append_comm_assoc _ _ _)
theorem blk_in {α : Type} (Bs : List (List α)) (i : Nat) (h : i < Bs.length) : ((Bs.eraseIdx i).flatten ++ Bs[i]).Perm Bs.flatten := (List.perm_append_comm).trans (blk_out Bs i h).symm
theorem blk_out2 {α : Type} (Bs : List (List α)) (i j : Nat) (h : i < Bs.length) (hj : j < (Bs.eraseIdx i).length) : Bs.flatten.Perm ((Bs[i] ++ (Bs.eraseIdx i)[j]) ++ ((Bs.eraseIdx i).eraseIdx j).flatten) := by
  refine (blk_out Bs i h).trans ?_
  rw [List.append_assoc]
  exact (blk_out _ j hj).append_left _
theorem blk_in2 {α : Type} (Bs : List (List α)) (i j : Nat) (h : i < Bs.length) (hj : j < (Bs.eraseIdx i).length) : (((Bs.eraseIdx i).eraseIdx j).flatten ++ (Bs[i] ++ (Bs.eraseIdx i)[j])).Perm Bs.flatten := (List.perm_append_comm).trans (blk_out2 Bs i j h hj).symm
theorem pm_out {α : Type} {ws x y c d : List α} (h1 : ws.Perm (x ++ y)) (h2 : x.Perm (c ++ d)) : ws.Perm (c ++ (d ++ y)) := (h1.trans (h2.append_right y)).trans (by rw [List.append_assoc])
theorem pm_in {α : Type} {ws x y c d : List α} (h1 : (y ++ x).Perm ws) (h2 : (d ++ c).Perm x) : ((d ++ y) ++ c).Perm ws := by
  refine List.Perm.trans ?_ h1
  refine List.Perm.trans ?_ (h2.append_left y)
  rw [List.append_assoc]
  exact List.perm_append_comm_assoc _ _ _
theorem pm_two {α : Type} {ws x y c d z : List α} (h1 : ws.Perm ((x ++ z) ++ y)) (h2 : x.Perm (c ++ d)) : ws.Perm ((c ++ z) ++ (d ++ y)) := by
  refine (h1.trans ((h2.append_right z).append_right y)).trans ?_
  rw [List.append_assoc, List.append_assoc, List.append_assoc]
  exact List.Perm.append_left c (List.perm_append_comm_assoc _ _ _)
theorem pm_two_in {α : Type} {ws x y c d z : List α} (h1 : (y ++ (x ++ z)).Perm ws) (h2 : (d ++ c).Perm x) : ((d ++ y) ++ (c ++ z)).Perm ws := by
  refine List.Perm.trans ?_ h1
  refine List.Perm.trans ?_ ((h2.append_right z).append_left y)
  rw [List.append_assoc, List.append_assoc]
  exact List.perm_append_comm_assoc _ _ _
theorem pm_sw {α : Type} (x t s z : List α) : ((x ++ (t ++ s)) ++ z).Perm ((x ++ s) ++ (t ++ z)) := by
  rw [List.append_assoc, List.append_assoc, List.append_assoc]
  exact List.Perm.append_left _ (List.perm_append_comm_assoc _ _ _)
theorem pm_sw2 {α : Type} (x t s z : List α) : ((t ++ z) ++ (x ++ s)).Perm (z ++ (x ++ (t ++ s))) :=
  (List.perm_append_comm).trans ((pm_sw x t s z).symm.trans List.perm_append_comm)
-- the whole object
abbrev kAd : Type := (Nat → Nat → Nat) × (Nat → Nat → Nat)
abbrev HS : Type := (Nat → Option ShS) × Int32 × Int32
abbrev NS : Type := Nat → Option ShS
abbrev oRow (r : Nat → Nat → Nat) (f : Nat → Option ShS) : Nat → Option Nat := fun i => (f i).map (fun _ => r i 0)
def wO1 (g : kG) (r : Nat → Nat) : Option ShS → va_W
  | none => []
  | some sh => wSh g r sh
def wO (g : kG) (r : Nat → Nat → Nat) (f : Nat → Option ShS) (l : List Nat) : va_W := l.flatMap (fun i => wO1 g (r i) (f i))
abbrev wHH (g : kG) (h : Nat → Nat) (row : Nat → Option Nat) (o z : Int32) : va_W := [(h 0, .inr (0, [.ref (h 1), .int o, .int z])), (h 1, .inl (kSh g, 6, .inr (.inr (.inr (.inr row)))))]
abbrev wH (g : kG) (h : Nat → Nat) (r : Nat → Nat → Nat) (hs : HS) : va_W := wHH g h (oRow r hs.1) hs.2.1 hs.2.2 ++ wO g r hs.1 [0, 1, 2, 3, 4, 5]
abbrev wN (g : kG) (d : Nat) (r : Nat → Nat → Nat) (ns : NS) : va_W := (d, .inl (kSh g, 2, .inr (.inr (.inr (.inr (oRow r ns)))))) :: wO g r ns [0, 1]
abbrev wB0 (D : Nat → Nat → Nat) : va_W := [(D 0 0, .inr (5, [.ref (D 1 0), .ref (D 5 0), .ref (D 0 1), .ref (D 2 0), .ref (D 4 0)]))]
abbrev wBl (g : kG) (D : Nat → Nat → Nat) (R : kAd) (u : ShS) (t : TS) (b : SS) (p : PS) (h : HS) (n : NS) : List va_W := [wB0 D, wSh g (D 1) u, wT g (D 2) (D 3 0) t ++ wS g (D 3) b, wP g (D 4) p, wH g (D 5) R.1 h, wN g (D 0 1) R.2 n]
abbrev wB (g : kG) (D : Nat → Nat → Nat) (R : kAd) (u : ShS) (t : TS) (b : SS) (p : PS) (h : HS) (n : NS) : va_W := (wBl g D R u t b p h n).flatten
section PB
variable {g : kG} {D : Nat → Nat → Nat} {R : kAd} {u : ShS} {t : TS} {b : SS} {p : PS} {h : HS} {n : NS}
theorem b1_out : (wB g D R u t b p h n).Perm (wSh g (D 1) u ++ ((wBl g D R u t b p h n).eraseIdx 1).flatten) := blk_out (wBl g D R u t b p h n) 1 (Nat.le_of_ble_eq_true rfl)
theorem b1_in (u2 : ShS) : (((wBl g D R u t b p h n).eraseIdx 1).flatten ++ wSh g (D 1) u2).Perm (wB g D R u2 t b p h n) := blk_in (wBl g D R u2 t b p h n) 1 (Nat.le_of_ble_eq_true rfl)
theorem b2_out : (wB g D R u t b p h n).Perm ((wT g (D 2) (D 3 0) t ++ wS g (D 3) b) ++ ((wBl g D R u t b p h n).eraseIdx 2).flatten) := blk_out (wBl g D R u t b p h n) 2 (Nat.le_of_ble_eq_true rfl)
theorem b2_in (t2 : TS) (b2 : SS) : (((wBl g D R u t b p h n).eraseIdx 2).flatten ++ (wT g (D 2) (D 3 0) t2 ++ wS g (D 3) b2)).Perm (wB g D R u t2 b2 p h n) := blk_in (wBl g D R u t2 b2 p h n) 2 (Nat.le_of_ble_eq_true rfl)
theorem b4_out : (wB g D R u t b p h n).Perm (wH g (D 5) R.1 h ++ ((wBl g D R u t b p h n).eraseIdx 4).flatten) := blk_out (wBl g D R u t b p h n) 4 (Nat.le_of_ble_eq_true rfl)
theorem b4_in (r2 : Nat → Nat → Nat) (h2 : HS) : (((wBl g D R u t b p h n).eraseIdx 4).flatten ++ wH g (D 5) r2 h2).Perm (wB g D (r2, R.2) u t b p h2 n) := blk_in (wBl g D (r2, R.2) u t b p h2 n) 4 (Nat.le_of_ble_eq_true rfl)
theorem b4_in0 (h2 : HS) : (((wBl g D R u t b p h n).eraseIdx 4).flatten ++ wH g (D 5) R.1 h2).Perm (wB g D R u t b p h2 n) := blk_in (wBl g D R u t b p h2 n) 4 (Nat.le_of_ble_eq_true rfl)
theorem b41_out : (wB g D R u t b p h n).Perm ((wH g (D 5) R.1 h ++ wSh g (D 1) u) ++ (((wBl g D R u t b p h n).eraseIdx 4).eraseIdx 1).flatten) := blk_out2 (wBl g D R u t b p h n) 4 1 (Nat.le_of_ble_eq_true rfl) (Nat.le_of_ble_eq_true rfl)
theorem b41_in (r2 : Nat → Nat → Nat) (h2 : HS) (u2 : ShS) : ((((wBl g D R u t b p h n).eraseIdx 4).eraseIdx 1).flatten ++ (wH g (D 5) r2 h2 ++ wSh g (D 1) u2)).Perm (wB g D (r2, R.2) u2 t b p h2 n) := blk_in2 (wBl g D (r2, R.2) u2 t b p h2 n) 4 1 (Nat.le_of_ble_eq_true rfl) (Nat.le_of_ble_eq_true rfl)
theorem b41_in0 (h2 : HS) (u2 : ShS) : ((((wBl g D R u t b p h n).eraseIdx 4).eraseIdx 1).flatten ++ (wH g (D 5) R.1 h2 ++ wSh g (D 1) u2)).Perm (wB g D R u2 t b p h2 n) := blk_in2 (wBl g D R u2 t b p h2 n) 4 1 (Nat.le_of_ble_eq_true rfl) (Nat.le_of_ble_eq_true rfl)
abbrev shRest (g : kG) (a : Nat → Nat) (u : ShS) (i : Nat) : va_W := wShH g a u.2 ++ wShK g a u.1 ([0, 1, 2, 3, 4].erase i)
theorem bs_out {i : Nat} (hi : i < 5) : (wB g D R u t b p h n).Perm (wS g (sa (D 1) i) (Sh_st u i) ++ (shRest g (D 1) u i ++ ((wBl g D R u t b p h n).eraseIdx 1).flatten)) := pm_out b1_out (wSh_out hi)
theorem bs_in {i : Nat} (hi : i < 5) (v : SS) : ((shRest g (D 1) u i ++ ((wBl g D R u t b p h n).eraseIdx 1).flatten) ++ wS g (sa (D 1) i) v).Perm (wB g D R (Sh_s_st u i v) t b p h n) := pm_in (b1_in _) (wSh_in hi v)
theorem bs_in0 {i : Nat} (hi : i < 5) : ((shRest g (D 1) u i ++ ((wBl g D R u t b p h n).eraseIdx 1).flatten) ++ wS g (sa (D 1) i) (Sh_st u i)).Perm (wB g D R u t b p h n) := pm_in (b1_in _) (wSh_in0 hi)
theorem bt_out {i : Nat} (hi : i < 5) : (wB g D R u t b p h n).Perm ((wS g (sa (D 1) i) (Sh_st u i) ++ wS g (D 3) b) ++ (shRest g (D 1) u i ++ (wT g (D 2) (D 3 0) t ++ (((wBl g D R u t b p h n).eraseIdx 1).eraseIdx 1).flatten))) := by
  refine pm_two (x := wSh g (D 1) u) ?_ (wSh_out hi)
  refine (blk_out2 (wBl g D R u t b p h n) 1 1 (Nat.le_of_ble_eq_true rfl) (Nat.le_of_ble_eq_true rfl)).trans ?_
  exact pm_sw (wSh g (D 1) u) (wT g (D 2) (D 3 0) t) (wS g (D 3) b) _
theorem bt_in {i : Nat} (hi : i < 5) (v : SS) : ((shRest g (D 1) u i ++ (wT g (D 2) (D 3 0) t ++ (((wBl g D R u t b p h n).eraseIdx 1).eraseIdx 1).flatten)) ++ (wS g (sa (D 1) i) v ++ wS g (D 3) b)).Perm (wB g D R (Sh_s_st u i v) t b p h n) := by
  refine pm_two_in (x := wSh g (D 1) (Sh_s_st u i v)) ?_ (wSh_in hi v)
  refine List.Perm.trans ?_ (blk_in2 (wBl g D R (Sh_s_st u i v) t b p h n) 1 1 (Nat.le_of_ble_eq_true rfl) (Nat.le_of_ble_eq_true rfl))
  exact pm_sw2 (wSh g (D 1) (Sh_s_st u i v)) (wT g (D 2) (D 3 0) t) (wS g (D 3) b) _
theorem bp_out {i : Nat} (hi : i < 5) : (wB g D R u t b p h n).Perm ((wP g (D 4) p ++ wS g (sa (D 1) i) (Sh_st u i)) ++ (shRest g (D 1) u i ++ (((wBl g D R u t b p h n).eraseIdx 3).eraseIdx 1).flatten)) := by
  refine (blk_out2 (wBl g D R u t b p h n) 3 1 (Nat.le_of_ble_eq_true rfl) (Nat.le_of_ble_eq_true rfl)).trans ?_
  show ((wP g (D 4) p ++ wSh g (D 1) u) ++ _).Perm _
  rw [List.append_assoc, List.append_assoc]
  refine List.Perm.append_left _ ?_
  rw [← List.append_assoc]
  exact (wSh_out hi).append_right _
theorem bp_in0 {i : Nat} (hi : i < 5) (p2 : PS) : ((shRest g (D 1) u i ++ (((wBl g D R u t b p h n).eraseIdx 3).eraseIdx 1).flatten) ++ (wP g (D 4) p2 ++ wS g (sa (D 1) i) (Sh_st u i))).Perm (wB g D R u t b p2 h n) := by
  refine (List.perm_append_comm).trans (List.Perm.trans ?_ (bp_out hi).symm)
  exact List.Perm.refl _
end PB
