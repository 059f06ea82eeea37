theorem cw_L_law_L_low_106 {p : Program} {s : State} {m : MethodId} {args : Array Value} {meth : Method} {c : Code} {g : kG} {A : Nat → Prop} (C : CT g p s m args meth c RL cL_law 16 (some .boolean) wsL_law A) : CallB room_1 s args RL 106 yL_low cL_low 2 (some .int) wsL_low rL_low 0 0 2 ∧ (Cond.static yL_low).before args s = true := cwS 2 C.2.2.2.2.2.1 gL_law_L_low rfl rfl rfl (by decide +kernel) ⟨Nat.le_of_ble_eq_true rfl, Nat.le_of_ble_eq_true rfl⟩
theorem cw_L_law_L_put_122 {p : Program} {s : State} {m : MethodId} {args : Array Value} {meth : Method} {c : Code} {g : kG} {A : Nat → Prop} (C : CT g p s m args meth c RL cL_law 16 (some .boolean) wsL_law A) : CallB room_1 s args RL 122 yL_put cL_put 5 none wsL_put rL_put 0 0 5 ∧ (Cond.static yL_put).before args s = true := cwS 5 C.2.2.2.2.2.1 gL_law_L_put rfl rfl rfl (by decide +kernel) ⟨Nat.le_of_ble_eq_true rfl, Nat.le_of_ble_eq_true rfl⟩
theorem cw_L_law_L_insert_133 {p : Program} {s : State} {m : MethodId} {args : Array Value} {meth : Method} {c : Code} {g : kG} {A : Nat → Prop} (C : CT g p s m args meth c RL cL_law 16 (some .boolean) wsL_law A) : vx_CSW room_1 s args RL 133 yL_insert cL_insert 8 (some .int) [(0, 13, 16, 15), (0, 13, 21, 17), (0, 13, 26, 19)] wsL_insert rL_insert 17 413 6 := vx_cwSW 6 C.2.2.2.2.2.1 gL_law_L_insert rfl rfl rfl (by decide +kernel) ⟨Nat.le_of_ble_eq_true rfl, Nat.le_of_ble_eq_true rfl⟩
theorem cw_L_law_L_change_136 {p : Program} {s : State} {m : MethodId} {args : Array Value} {meth : Method} {c : Code} {g : kG} {A : Nat → Prop} (C : CT g p s m args meth c RL cL_law 16 (some .boolean) wsL_law A) : vx_CSW room_1 s args RL 136 yL_change cL_change 8 (some .int) [(0, 13, 16, 15), (0, 13, 21, 17)] wsL_change rL_change 18 419 6 := vx_cwSW 6 C.2.2.2.2.2.1 gL_law_L_change rfl rfl rfl (by decide +kernel) ⟨Nat.le_of_ble_eq_true rfl, Nat.le_of_ble_eq_true rfl⟩
theorem cw_L_law_L_stroke_126 {p : Program} {s : State} {m : MethodId} {args : Array Value} {meth : Method} {c : Code} {g : kG} {A : Nat → Prop} (C : CT g p s m args meth c RL cL_law 16 (some .boolean) wsL_law A) : vx_CSW room_1 s args RL 126 yL_stroke cL_stroke 7 (some .int) [(0, 11, 14, 17), (0, 11, 19, 19)] wsL_stroke rL_stroke 18 419 5 := vx_cwSW 5 C.2.2.2.2.2.1 gL_law_L_stroke rfl rfl rfl (by decide +kernel) ⟨Nat.le_of_ble_eq_true rfl, Nat.le_of_ble_eq_true rfl⟩
theorem cw_L_law_L_remove_138 {p : Program} {s : State} {m : MethodId} {args : Array Value} {meth : Method} {c : Code} {g : kG} {A : Nat → Prop} (C : CT g p s m args meth c RL cL_law 16 (some .boolean) wsL_law A) : vx_CSW room_1 s args RL 138 yL_remove cL_remove 5 (some .int) [(0, 7, 10, 15), (0, 7, 15, 19)] wsL_remove rL_remove 15 401 3 := vx_cwSW 3 C.2.2.2.2.2.1 gL_law_L_remove rfl rfl rfl (by decide +kernel) ⟨Nat.le_of_ble_eq_true rfl, Nat.le_of_ble_eq_true rfl⟩
theorem cw_L_law_X5_setting_82 {p : Program} {s : State} {m : MethodId} {args : Array Value} {meth : Method} {c : Code} {g : kG} {A : Nat → Prop} (C : CT g p s m args meth c RL cL_law 16 (some .boolean) wsL_law A) : CallW room_1 s args RL RX5 82 yX5_setting cX5_setting 2 (some .int) wsX5_setting rX5_setting 0 0 1 := cwV 1 C.2.2.2.2.2.1 gL_law_X5_setting rfl rfl rfl (by decide +kernel) ⟨Nat.le_of_ble_eq_true rfl, Nat.le_of_ble_eq_true rfl⟩
theorem cw_L_law_L_set_141 {p : Program} {s : State} {m : MethodId} {args : Array Value} {meth : Method} {c : Code} {g : kG} {A : Nat → Prop} (C : CT g p s m args meth c RL cL_law 16 (some .boolean) wsL_law A) : vx_CSW room_1 s args RL 141 yL_set cL_set 5 (some .int) [(0, 7, 10, 15), (0, 7, 15, 17)] wsL_set rL_set 15 401 3 := vx_cwSW 3 C.2.2.2.2.2.1 gL_law_L_set rfl rfl rfl (by decide +kernel) ⟨Nat.le_of_ble_eq_true rfl, Nat.le_of_ble_eq_true rfl⟩
theorem cw_L_law_L_fixed_85 {p : Program} {s : State} {m : MethodId} {args : Array Value} {meth : Method} {c : Code} {g : kG} {A : Nat → Prop} (C : CT g p s m args meth c RL cL_law 16 (some .boolean) wsL_law A) : CallB room_1 s args RL 85 yL_fixed cL_fixed 6 (some .int) wsL_fixed rL_fixed 0 0 5 ∧ (Cond.static yL_fixed).before args s = true := cwS 5 C.2.2.2.2.2.1 gL_law_L_fixed rfl rfl rfl (by decide +kernel) ⟨Nat.le_of_ble_eq_true rfl, Nat.le_of_ble_eq_true rfl⟩
theorem cw_L_law_L_split_115 {p : Program} {s : State} {m : MethodId} {args : Array Value} {meth : Method} {c : Code} {g : kG} {A : Nat → Prop} (C : CT g p s m args meth c RL cL_law 16 (some .boolean) wsL_law A) : CallB room_1 s args RL 115 yL_split cL_split 11 (some .int) wsL_split rL_split 0 0 4 ∧ (Cond.static yL_split).before args s = true := cwS 4 C.2.2.2.2.2.1 gL_law_L_split rfl rfl rfl (by decide +kernel) ⟨Nat.le_of_ble_eq_true rfl, Nat.le_of_ble_eq_true rfl⟩
theorem cw_L_law_L_fewest_109 {p : Program} {s : State} {m : MethodId} {args : Array Value} {meth : Method} {c : Code} {g : kG} {A : Nat → Prop} (C : CT g p s m args meth c RL cL_law 16 (some .boolean) wsL_law A) : CallB room_1 s args RL 109 yL_fewest cL_fewest 6 (some .int) wsL_fewest rL_fewest 0 0 4 ∧ (Cond.static yL_fewest).before args s = true := cwS 4 C.2.2.2.2.2.1 gL_law_L_fewest rfl rfl rfl (by decide +kernel) ⟨Nat.le_of_ble_eq_true rfl, Nat.le_of_ble_eq_true rfl⟩
theorem cw_L_law_L_simplify_143 {p : Program} {s : State} {m : MethodId} {args : Array Value} {meth : Method} {c : Code} {g : kG} {A : Nat → Prop} (C : CT g p s m args meth c RL cL_law 16 (some .boolean) wsL_law A) : vx_CSW room_1 s args RL 143 yL_simplify cL_simplify 5 (some .int) [(0, 7, 10, 15), (0, 7, 15, 17)] wsL_simplify rL_simplify 15 401 3 := vx_cwSW 3 C.2.2.2.2.2.1 gL_law_L_simplify rfl rfl rfl (by decide +kernel) ⟨Nat.le_of_ble_eq_true rfl, Nat.le_of_ble_eq_true rfl⟩
theorem cw_L_law_L_ones_75 {p : Program} {s : State} {m : MethodId} {args : Array Value} {meth : Method} {c : Code} {g : kG} {A : Nat → Prop} (C : CT g p s m args meth c RL cL_law 16 (some .boolean) wsL_law A) : CallB room_1 s args RL 75 yL_ones cL_ones 3 (some .int) wsL_ones rL_ones 0 0 1 ∧ (Cond.static yL_ones).before args s = true := cwS 1 C.2.2.2.2.2.1 gL_law_L_ones rfl rfl rfl (by decide +kernel) ⟨Nat.le_of_ble_eq_true rfl, Nat.le_of_ble_eq_true rfl⟩
theorem cw_L_law_L_bake_145 {p : Program} {s : State} {m : MethodId} {args : Array Value} {meth : Method} {c : Code} {g : kG} {A : Nat → Prop} (C : CT g p s m args meth c RL cL_law 16 (some .boolean) wsL_law A) : vx_CSW room_1 s args RL 145 yL_bake cL_bake 4 (some .int) [(0, 6, 9, 15)] wsL_bake rL_bake 14 395 2 := vx_cwSW 2 C.2.2.2.2.2.1 gL_law_L_bake rfl rfl rfl (by decide +kernel) ⟨Nat.le_of_ble_eq_true rfl, Nat.le_of_ble_eq_true rfl⟩
theorem cw_L_law_L_isSo_148 {p : Program} {s : State} {m : MethodId} {args : Array Value} {meth : Method} {c : Code} {g : kG} {A : Nat → Prop} (C : CT g p s m args meth c RL cL_law 16 (some .boolean) wsL_law A) : CallB room_1 s args RL 148 yL_isSo cL_isSo 18 (some .boolean) wsL_isSo rL_isSo 0 0 5 ∧ (Cond.static yL_isSo).before args s = true := cwS 5 C.2.2.2.2.2.1 gL_law_L_isSo rfl rfl rfl (by decide +kernel) ⟨Nat.le_of_ble_eq_true rfl, Nat.le_of_ble_eq_true rfl⟩
theorem cw_L_law_L_isAhead_152 {p : Program} {s : State} {m : MethodId} {args : Array Value} {meth : Method} {c : Code} {g : kG} {A : Nat → Prop} (C : CT g p s m args meth c RL cL_law 16 (some .boolean) wsL_law A) : CallB room_1 s args RL 152 yL_isAhead cL_isAhead 10 (some .boolean) wsL_isAhead rL_isAhead 0 0 5 ∧ (Cond.static yL_isAhead).before args s = true := cwS 5 C.2.2.2.2.2.1 gL_law_L_isAhead rfl rfl rfl (by decide +kernel) ⟨Nat.le_of_ble_eq_true rfl, Nat.le_of_ble_eq_true rfl⟩
theorem cw_L_law_cell {p : Program} {s : State} {m : MethodId} {args : Array Value} {meth : Method} {c : Code} {g : kG} {A : Nat → Prop} (C : CT g p s m args meth c RL cL_law 16 (some .boolean) wsL_law A) : CallB room_1 s args RL 129 yL_cell cL_cell 2 (some .int) wsL_cell rL_cell 0 0 2 ∧ (Cond.static yL_cell).before args s = true := cwS 2 C.2.2.2.2.2.1 gL_law_L_cell rfl rfl rfl (by decide +kernel) ⟨Nat.le_of_ble_eq_true rfl, Nat.le_of_ble_eq_true rfl⟩
noncomputable def bL_law_838 (c101 : Int32) (c102 : Int32) (na : Nat) : Int32 × Int32 × (Nat → Int32) → Option ((Int32 × Int32 × (Nat → Int32)) ⊕ (Int32 × (Nat → Int32)))
  | (x105, x106, u113) => if c101 ≤ x106 then (some (.inr (x105, u113))) else (((if ((c102 >>> (x106 &&& 31)) &&& 1) = 0 then (some (x105, u113)) else (gd (inb (3 * x106) na) (gd (inb ((3 * x106) + 1) na) (gd (inb ((3 * x106) + 2) na) ((fL_put x105 (u113 (3 * x106).toNatClampNeg) (u113 ((3 * x106) + 1).toNatClampNeg) (u113 ((3 * x106) + 2).toNatClampNeg) na u113).bind fun u119 => some (x105 + 1, u119)))))) : Option (Int32 × (Nat → Int32))).bind fun (v117, u118) => some (.inl (v117, x106 + 1, u118)))
noncomputable def lL_law_838 (c101 : Int32) (c102 : Int32) (na : Nat) (x105 : Int32) (x106 : Int32) (u113 : (Nat → Int32)) : Option (Int32 × (Nat → Int32)) := lp (bL_law_838 c101 c102 na) (x105, x106, u113)
theorem lL_law_838_eq (c101 : Int32) (c102 : Int32) (na : Nat) (x105 : Int32) (x106 : Int32) (u113 : (Nat → Int32)) : lL_law_838 c101 c102 na x105 x106 u113 = (if c101 ≤ x106 then (some (.inr (x105, u113))) else (((if ((c102 >>> (x106 &&& 31)) &&& 1) = 0 then (some (x105, u113)) else (gd (inb (3 * x106) na) (gd (inb ((3 * x106) + 1) na) (gd (inb ((3 * x106) + 2) na) ((fL_put x105 (u113 (3 * x106).toNatClampNeg) (u113 ((3 * x106) + 1).toNatClampNeg) (u113 ((3 * x106) + 2).toNatClampNeg) na u113).bind fun u119 => some (x105 + 1, u119)))))) : Option (Int32 × (Nat → Int32))).bind fun (v117, u118) => some (.inl (v117, x106 + 1, u118)))).bind fun r => Sum.elim (fun z => lL_law_838 c101 c102 na z.1 z.2.1 z.2.2) (fun r => some r) r := lp_eq (bL_law_838 c101 c102 na) (x105, x106, u113)
set_option maxRecDepth 100000 in
set_option maxHeartbeats 4000000 in
theorem tL_law_838 {p : Program} {l : Launch} {e : Env} {s : State} {m : MethodId} {args : Array Value} {below : List Frame} {meth : Method} {c : Code} {g : kG} {A : Nat → Prop} {Q : State → Prop} {b : Nat} (D : Nat → Nat → Nat) (R : kAd) (a : Nat → Nat) (C : CT g p s m args meth c RL cL_law 16 (some .boolean) wsL_law A) {cells slots : Nat} (hfit : cells ≤ 600086 ∧ slots ≤ 7301442) (c101 : Int32) (c102 : Int32) (c103 : Int32) (c104 : Int32) (w107 : ShS) (w108 : TS) (w109 : SS) (w110 : PS) (w111 : HS) (w112 : NS) (na : Nat) (y114 : Int32) (u115 : (Nat → Int32)) (kk : ∀ (H : Heap) (locs : List Loc) (ls : Array Slot), ST g A s H locs (wR g a na u115 ++ wB g D R w107 w108 w109 w110 w111 w112) → lv_has ls 16 [(0, .ref b), (1, .ref (D 0 0)), (2, .ref (a 0)), (3, .int c101), (5, .int c103), (6, .int c104), (13, .int y114)] → W p l e room_1 s m args below meth c H locs cells slots Q (F0 m 894 ls [])) : ∀ (n : Nat) (x105 : Int32) (x106 : Int32) (u113 : (Nat → Int32)), whl (bL_law_838 c101 c102 na) n (x105, x106, u113) = some (y114, u115) → ∀ (H : Heap) (locs : List Loc) (ls : Array Slot), ST g A s H locs (wR g a na u113 ++ wB g D R w107 w108 w109 w110 w111 w112) → lv_has ls 16 [(0, .ref b), (1, .ref (D 0 0)), (2, .ref (a 0)), (3, .int c101), (4, .int c102), (5, .int c103), (6, .int c104), (13, .int x105), (14, .int x106)] → W p l e room_1 s m args below meth c H locs cells slots Q (F0 m 838 ls []) := by
  have hx := C.1
  have hb := C.2.1
  intro n
  induction n with
  | zero =>
    intro x105 x106 u113 hm
    cases hm
  | succ n ih =>
    intro x105 x106 u113 hm H locs ls X hl
    rw [whl] at hm
    obtain ⟨q, hq, hm2⟩ := bnd hm
    clear hm
    have hm := hq
    clear hq
    rw [bL_law_838] at hm
    refine lv_iload hx hb dL_law_838 (lv_at hl 8 rfl) ?_
    refine lv_iload_n hx hb dL_law_840 rfl (lv_at hl 3 rfl) ?_
    refine lv_icmp_ge (tgt := 894) hx hb dL_law_841 (by decide) (fun hc => ?_) (fun hc => ?_)
    · have hm := ifp hc hm
      cases sm hm
      cases sm hm2
      exact kk _ _ _ X (lv_sub hl [0, 1, 2, 3, 5, 6, 7] rfl)
    · have hm := ifn hc hm
      refine lv_iload hx hb dL_law_844 (lv_at hl 4 rfl) ?_
      refine lv_iload hx hb dL_law_846 (lv_at hl 8 rfl) ?_
      refine lv_ishr hx hb dL_law_848 ?_
      refine lv_iconst (v := 1) hx hb dL_law_849 (by decide) ?_
      refine lv_iand hx hb dL_law_850 ?_
      obtain ⟨⟨v117, u118⟩, hE, hm⟩ := bnd hm
      have K : ∀ (H : Heap) (locs : List Loc) (ls : Array Slot), ST g A s H locs (wR g a na u118 ++ wB g D R w107 w108 w109 w110 w111 w112) → lv_has ls 16 [(0, .ref b), (1, .ref (D 0 0)), (2, .ref (a 0)), (3, .int c101), (4, .int c102), (5, .int c103), (6, .int c104), (13, .int v117), (14, .int x106)] → W p l e room_1 s m args below meth c H locs cells slots Q (F0 m 888 ls []) := by
        intro H locs ls X hl
        clear hE
        refine lv_iinc (v := x106 + 1) (lv' := [(14, .int (x106 + 1)), (0, .ref b), (1, .ref (D 0 0)), (2, .ref (a 0)), (3, .int c101), (4, .int c102), (5, .int c103), (6, .int c104), (13, .int v117)]) hx hb dL_law_888 hl (k := 8) rfl rfl (by decide) rfl (fun ls hl => ?_)
        refine lv_goto (tgt := 838) hx hb dL_law_891 (by decide) ?_
        cases sm hm
        exact ih _ _ _ hm2 _ _ _ X (lv_sub hl [1, 2, 3, 4, 5, 6, 7, 8, 0] rfl)
      clear hm
      have hm := hE
      clear hE
      refine lv_if_ne (tgt := 857) hx hb dL_law_851 (by decide) (fun hc => ?_) (fun hc => ?_)
      · have hm := ifn hc hm
        refine lv_aload_n hx hb dL_law_857 rfl (lv_at hl 2 rfl) ?_
        refine lv_iload hx hb dL_law_858 (lv_at hl 7 rfl) ?_
        refine lv_aload_n hx hb dL_law_860 rfl (lv_at hl 2 rfl) ?_
        refine lv_iconst (v := 3) hx hb dL_law_861 (by decide) ?_
        refine lv_iload hx hb dL_law_862 (lv_at hl 8 rfl) ?_
        refine lv_imul hx hb dL_law_864 ?_
        obtain ⟨hgi, hm⟩ := gd_t hm
        refine kiald C X 0 rfl hgi dL_law_865 ?_
        refine lv_aload_n hx hb dL_law_866 rfl (lv_at hl 2 rfl) ?_
        refine lv_iconst (v := 3) hx hb dL_law_867 (by decide) ?_
        refine lv_iload hx hb dL_law_868 (lv_at hl 8 rfl) ?_
        refine lv_imul hx hb dL_law_870 ?_
        refine lv_iconst (v := 1) hx hb dL_law_871 (by decide) ?_
        refine lv_iadd hx hb dL_law_872 ?_
        obtain ⟨hgi, hm⟩ := gd_t hm
        refine kiald C X 0 rfl hgi dL_law_873 ?_
        refine lv_aload_n hx hb dL_law_874 rfl (lv_at hl 2 rfl) ?_
        refine lv_iconst (v := 3) hx hb dL_law_875 (by decide) ?_
        refine lv_iload hx hb dL_law_876 (lv_at hl 8 rfl) ?_
        refine lv_imul hx hb dL_law_878 ?_
        refine lv_iconst (v := 2) hx hb dL_law_879 (by decide) ?_
        refine lv_iadd hx hb dL_law_880 ?_
        obtain ⟨hgi, hm⟩ := gd_t hm
        refine kiald C X 0 rfl hgi dL_law_881 ?_
        obtain ⟨u119, hcl, hm⟩ := bnd hm
        refine kSp _ (List.Perm.refl _) C X (kL_put l g a x105 (u113 (3 * x106).toNatClampNeg) (u113 ((3 * x106) + 1).toNatClampNeg) (u113 ((3 * x106) + 2).toNatClampNeg) na u113 u119 hcl) (cw_L_law_L_put_122 C) (As := [.ref (a 0), .int x105, .int (u113 (3 * x106).toNatClampNeg), .int (u113 ((3 * x106) + 1).toNatClampNeg), .int (u113 ((3 * x106) + 2).toNatClampNeg)]) rfl hl (rest := []) rfl (Nat.le_of_ble_eq_true rfl) (st2 := []) rfl dL_law_882 ⟨by have := hfit.1; show _ ≤ 600086; omega, by have := hfit.2; show _ ≤ 7301442; omega⟩ (w3 := wR g a na u119 ++ wB g D R w107 w108 w109 w110 w111 w112) List.perm_append_comm (fun H locs X => ?_)
        clear hcl
        refine lv_iinc (v := x105 + 1) (lv' := [(13, .int (x105 + 1)), (0, .ref b), (1, .ref (D 0 0)), (2, .ref (a 0)), (3, .int c101), (4, .int c102), (5, .int c103), (6, .int c104), (14, .int x106)]) hx hb dL_law_885 hl (k := 7) rfl rfl (by decide) rfl (fun ls hl => ?_)
        cases sm hm
        exact K _ _ _ X (lv_sub hl [1, 2, 3, 4, 5, 6, 7, 0, 8] rfl)
      · have hm := ifp hc hm
        refine lv_goto (tgt := 888) hx hb dL_law_854 (by decide) ?_
        cases sm hm
        exact K _ _ _ X (lv_sub hl [0, 1, 2, 3, 4, 5, 6, 7, 8] rfl)
noncomputable def sL_law_825 (i3 : Int32) (i4 : Int32) (i8 : Int32) (na : Nat) (u : ShS) (ps : PS) (hs : HS) (f : (Nat → Int32)) : Option (Int32 × Int32 × ShS × PS × HS × (Nat → Int32)) := if i8 = 11 then ((lL_law_838 i3 i4 na 0 0 f).bind fun (y120, u121) => (fL_bake 0 u hs).bind fun (r122, s123, s124) => if r122 = (i3 - y120) then ((fL_bake (-1) s123 s124).bind fun (r126, s127, s128) => if r126 = (-31) then (some (y120, (1 <<< (y120 &&& 31)) - 1, s127, ps, s128, u121)) else none) else none) else (some (i3, i4, u, ps, hs, f))
set_option maxRecDepth 100000 in
set_option maxHeartbeats 8000000 in
theorem gL_law_825 {p : Program} {l : Launch} {e : Env} {s : State} {m : MethodId} {args : Array Value} {below : List Frame} {meth : Method} {c : Code} {g : kG} {A : Nat → Prop} {Q : State → Prop} {b : Nat} (hl9 : l.stackTraces = false) (D : Nat → Nat → Nat) (a : Nat → Nat) (C : CT g p s m args meth c RL cL_law 16 (some .boolean) wsL_law A) (na : Nat) (i3 : Int32) (i4 : Int32) (i5 : Int32) (i6 : Int32) (i8 : Int32) (u : ShS) (ts : TS) (bs : SS) (ps : PS) (hs : HS) (ns : NS) (f : (Nat → Int32)) (z1 : Int32) (z2 : Int32) (z3 : ShS) (z4 : PS) (z5 : HS) (z6 : (Nat → Int32)) {cells slots : Nat} (hfit : cells + 80 ≤ 600086 ∧ slots + 2000 ≤ 7301442) (kk : ∀ (H : Heap) (locs : List Loc) (ls : Array Slot) (R : kAd), ST g A s H locs (wR g a na z6 ++ wB g D R z3 ts bs z4 z5 ns) → lv_has ls 16 [(0, .ref b), (1, .ref (D 0 0)), (2, .ref (a 0)), (3, .int z1), (4, .int z2), (5, .int i5), (6, .int i6)] → W p l e room_1 s m args below meth c H locs (cells + 80) (slots + 2000) Q (F0 m 928 ls [])) (hm : sL_law_825 i3 i4 i8 na u ps hs f = some (z1, z2, z3, z4, z5, z6)) : ∀ (H : Heap) (locs : List Loc) (ls : Array Slot) (R : kAd), ST g A s H locs (wR g a na f ++ wB g D R u ts bs ps hs ns) → lv_has ls 16 [(0, .ref b), (1, .ref (D 0 0)), (2, .ref (a 0)), (3, .int i3), (4, .int i4), (5, .int i5), (6, .int i6), (8, .int i8)] → W p l e room_1 s m args below meth c H locs cells slots Q (F0 m 825 ls []) := by
  have hx := C.1
  have hb := C.2.1
  intro H locs ls R X hl
  rw [sL_law_825] at hm
  refine lv_iload hx hb dL_law_825 (lv_at hl 7 rfl) ?_
  refine lv_bipush (v := 11) hx hb dL_law_827 (by decide) ?_
  refine lv_icmp_ne (tgt := 928) hx hb dL_law_829 (by decide) (fun hc => ?_) (fun hc => ?_)
  · have hm := ifn hc hm
    cases sm hm
    refine W.widen (k := cells + 80) (n := slots + 2000) (by omega) (by omega) ?_
    exact kk _ _ _ R X (lv_sub hl [0, 1, 2, 3, 4, 5, 6] rfl)
  · have hm := ifp hc hm
    refine lv_iconst (v := 0) hx hb dL_law_832 (by decide) ?_
    refine lv_istore (lv' := [(13, .int 0), (0, .ref b), (1, .ref (D 0 0)), (2, .ref (a 0)), (3, .int i3), (4, .int i4), (5, .int i5), (6, .int i6), (8, .int i8)]) hx hb dL_law_833 hl (by decide) rfl (fun ls hl => ?_)
    refine lv_iconst (v := 0) hx hb dL_law_835 (by decide) ?_
    refine lv_istore (lv' := [(14, .int 0), (13, .int 0), (0, .ref b), (1, .ref (D 0 0)), (2, .ref (a 0)), (3, .int i3), (4, .int i4), (5, .int i5), (6, .int i6), (8, .int i8)]) hx hb dL_law_836 hl (by decide) rfl (fun ls hl => ?_)
    obtain ⟨⟨y120, u121⟩, hL, hm⟩ := bnd hm
    obtain ⟨nn, hn⟩ := lp_run hL
    refine tL_law_838 D R a C ⟨by have := hfit.1; show _ ≤ 600086; omega, by have := hfit.2; show _ ≤ 7301442; omega⟩ i3 i4 i5 i6 u ts bs ps hs ns na y120 u121 (fun H locs ls X hl => ?_) nn _ _ _ hn _ _ _ X (lv_sub hl [2, 3, 4, 5, 6, 7, 8, 1, 0] rfl)
    clear hL hn
    refine lv_aload_n hx hb dL_law_894 rfl (lv_at hl 1 rfl) ?_
    refine lv_iconst (v := 0) hx hb dL_law_895 (by decide) ?_
    obtain ⟨⟨r122, s123, s124⟩, hcl, hm⟩ := bnd hm
    refine keSW (wR g a na u121) List.perm_append_comm C X (kL_bake l hl9 g D R 0 u ts bs ps hs ns r122 s123 s124 hcl) (cw_L_law_L_bake_145 C) (As := [.ref (D 0 0), .int 0]) rfl hl (rest := []) rfl (Nat.le_of_ble_eq_true rfl) (st2 := [.int r122]) rfl dL_law_896 ⟨by have := hfit.1; show _ ≤ 600086; omega, by have := hfit.2; show _ ≤ 7301442; omega⟩ (w4 := fun R125 => wR g a na u121 ++ wB g D R125 s123 ts bs ps s124 ns) (fun _ => List.Perm.refl _) (fun R125 H locs X => ?_)
    clear hcl
    refine lv_iload_n hx hb dL_law_899 rfl (lv_at hl 3 rfl) ?_
    refine lv_iload hx hb dL_law_900 (lv_at hl 6 rfl) ?_
    refine lv_isub hx hb dL_law_902 ?_
    refine lv_icmp_ne (tgt := 916) hx hb dL_law_903 (by decide) (fun hc => ?_) (fun hc => ?_)
    · have hm := ifn hc hm
      cases hm
    · have hm := ifp hc hm
      refine lv_aload_n hx hb dL_law_906 rfl (lv_at hl 1 rfl) ?_
      refine lv_iconst (v := (-1)) hx hb dL_law_907 (by decide) ?_
      obtain ⟨⟨r126, s127, s128⟩, hcl, hm⟩ := bnd hm
      refine keSW (wR g a na u121) List.perm_append_comm C X (kL_bake l hl9 g D R125 (-1) s123 ts bs ps s124 ns r126 s127 s128 hcl) (cw_L_law_L_bake_145 C) (As := [.ref (D 0 0), .int (-1)]) rfl hl (rest := []) rfl (Nat.le_of_ble_eq_true rfl) (st2 := [.int r126]) rfl dL_law_908 ⟨by have := hfit.1; show _ ≤ 600086; omega, by have := hfit.2; show _ ≤ 7301442; omega⟩ (w4 := fun R129 => wR g a na u121 ++ wB g D R129 s127 ts bs ps s128 ns) (fun _ => List.Perm.refl _) (fun R129 H locs X => ?_)
      clear hcl
      refine lv_bipush (v := (-31)) hx hb dL_law_911 (by decide) ?_
      refine lv_icmp_eq (tgt := 918) hx hb dL_law_913 (by decide) (fun hc => ?_) (fun hc => ?_)
      · have hm := ifp hc hm
        refine lv_iload hx hb dL_law_918 (lv_at hl 6 rfl) ?_
        refine lv_istore_n (lv' := [(3, .int y120), (0, .ref b), (1, .ref (D 0 0)), (2, .ref (a 0)), (5, .int i5), (6, .int i6), (13, .int y120)]) hx hb dL_law_920 rfl hl (by decide) rfl (fun ls hl => ?_)
        refine lv_iconst (v := 1) hx hb dL_law_921 (by decide) ?_
        refine lv_iload_n hx hb dL_law_922 rfl (lv_at hl 0 rfl) ?_
        refine lv_ishl hx hb dL_law_923 ?_
        refine lv_iconst (v := 1) hx hb dL_law_924 (by decide) ?_
        refine lv_isub hx hb dL_law_925 ?_
        refine lv_istore (lv' := [(4, .int ((1 <<< (y120 &&& 31)) - 1)), (3, .int y120), (0, .ref b), (1, .ref (D 0 0)), (2, .ref (a 0)), (5, .int i5), (6, .int i6), (13, .int y120)]) hx hb dL_law_926 hl (by decide) rfl (fun ls hl => ?_)
        have hz := sm hm
        clear hm
        obtain ⟨e1, e2, e3, e4, e5, e6⟩ : y120 = z1 ∧ (1 <<< (y120 &&& 31)) - 1 = z2 ∧ s127 = z3 ∧ ps = z4 ∧ s128 = z5 ∧ u121 = z6 := ⟨congrArg (fun q => q.1) hz, congrArg (fun q => q.2.1) hz, congrArg (fun q => q.2.2.1) hz, congrArg (fun q => q.2.2.2.1) hz, congrArg (fun q => q.2.2.2.2.1) hz, congrArg (fun q => q.2.2.2.2.2) hz⟩
        clear hz
        subst e1
        subst e2
        subst e3
        subst e4
        subst e5
        subst e6
        refine W.widen (k := cells + 80) (n := slots + 2000) (by omega) (by omega) ?_
        exact kk _ _ _ R129 X (lv_sub hl [2, 3, 4, 1, 0, 5, 6] rfl)
      · have hm := ifn hc hm
        cases hm
noncomputable def bL_law_696 (c1101 : Int32) (w1106 : ShS) (w1112 : (Nat → Int32)) (na : Nat) : Int32 × Int32 → Option ((Int32 × Int32) ⊕ (Int32))
  | (x1104, x1105) => if c1101 ≤ x1105 then (some (.inr x1104)) else ((fX5_setting 1 w1106).bind fun r1114 => (fX5_setting 2 w1106).bind fun r1115 => (fL_fixed c1101 x1105 r1114 r1115 na w1112).bind fun r1116 => ((if r1116 ≤ 0 then (some 0) else (some (1 <<< (x1105 &&& 31)))) : Option (Int32)).bind fun v1117 => some (.inl (x1104 ||| v1117, x1105 + 1)))
noncomputable def lL_law_696 (c1101 : Int32) (w1106 : ShS) (w1112 : (Nat → Int32)) (na : Nat) (x1104 : Int32) (x1105 : Int32) : Option (Int32) := lp (bL_law_696 c1101 w1106 w1112 na) (x1104, x1105)
theorem lL_law_696_eq (c1101 : Int32) (w1106 : ShS) (w1112 : (Nat → Int32)) (na : Nat) (x1104 : Int32) (x1105 : Int32) : lL_law_696 c1101 w1106 w1112 na x1104 x1105 = (if c1101 ≤ x1105 then (some (.inr x1104)) else ((fX5_setting 1 w1106).bind fun r1114 => (fX5_setting 2 w1106).bind fun r1115 => (fL_fixed c1101 x1105 r1114 r1115 na w1112).bind fun r1116 => ((if r1116 ≤ 0 then (some 0) else (some (1 <<< (x1105 &&& 31)))) : Option (Int32)).bind fun v1117 => some (.inl (x1104 ||| v1117, x1105 + 1)))).bind fun r => Sum.elim (fun z => lL_law_696 c1101 w1106 w1112 na z.1 z.2) (fun r => some r) r := lp_eq (bL_law_696 c1101 w1106 w1112 na) (x1104, x1105)
set_option maxRecDepth 100000 in
set_option maxHeartbeats 4000000 in
theorem tL_law_696 {p : Program} {l : Launch} {e : Env} {s : State} {m : MethodId} {args : Array Value} {below : List Frame} {meth : Method} {c : Code} {g : kG} {A : Nat → Prop} {Q : State → Prop} {b : Nat} (D : Nat → Nat → Nat) (R : kAd) (a : Nat → Nat) (C : CT g p s m args meth c RL cL_law 16 (some .boolean) wsL_law A) {cells slots : Nat} (hfit : cells ≤ 600086 ∧ slots ≤ 7301442) (c1101 : Int32) (c1102 : Int32) (c1103 : Int32) (w1106 : ShS) (w1107 : TS) (w1108 : SS) (w1109 : PS) (w1110 : HS) (w1111 : NS) (w1112 : (Nat → Int32)) (na : Nat) (y1113 : Int32) (kk : ∀ (H : Heap) (locs : List Loc) (ls : Array Slot), ST g A s H locs (wR g a na w1112 ++ wB g D R w1106 w1107 w1108 w1109 w1110 w1111) → lv_has ls 16 [(0, .ref b), (1, .ref (D 0 0)), (2, .ref (a 0)), (3, .int c1101), (5, .int c1102), (6, .int c1103), (13, .int y1113)] → W p l e room_1 s m args below meth c H locs cells slots Q (F0 m 741 ls [])) : ∀ (n : Nat) (x1104 : Int32) (x1105 : Int32), whl (bL_law_696 c1101 w1106 w1112 na) n (x1104, x1105) = some y1113 → ∀ (H : Heap) (locs : List Loc) (ls : Array Slot), ST g A s H locs (wR g a na w1112 ++ wB g D R w1106 w1107 w1108 w1109 w1110 w1111) → lv_has ls 16 [(0, .ref b), (1, .ref (D 0 0)), (2, .ref (a 0)), (3, .int c1101), (5, .int c1102), (6, .int c1103), (13, .int x1104), (14, .int x1105)] → W p l e room_1 s m args below meth c H locs cells slots Q (F0 m 696 ls []) := by
  have hx := C.1
  have hb := C.2.1
  intro n
  induction n with
  | zero =>
    intro x1104 x1105 hm
    cases hm
  | succ n ih =>
    intro x1104 x1105 hm H locs ls X hl
    rw [whl] at hm
    obtain ⟨q, hq, hm2⟩ := bnd hm
    clear hm
    have hm := hq
    clear hq
    rw [bL_law_696] at hm
    refine lv_iload hx hb dL_law_696 (lv_at hl 7 rfl) ?_
    refine lv_iload_n hx hb dL_law_698 rfl (lv_at hl 3 rfl) ?_
    refine lv_icmp_ge (tgt := 741) hx hb dL_law_699 (by decide) (fun hc => ?_) (fun hc => ?_)
    · have hm := ifp hc hm
      cases sm hm
      cases sm hm2
      exact kk _ _ _ X (lv_sub hl [0, 1, 2, 3, 4, 5, 6] rfl)
    · have hm := ifn hc hm
      refine lv_iload hx hb dL_law_702 (lv_at hl 6 rfl) ?_
      refine lv_aload_n hx hb dL_law_704 rfl (lv_at hl 2 rfl) ?_
      refine lv_iload_n hx hb dL_law_705 rfl (lv_at hl 3 rfl) ?_
      refine lv_iload hx hb dL_law_706 (lv_at hl 7 rfl) ?_
      refine lv_aload_n hx hb dL_law_708 rfl (lv_at hl 1 rfl) ?_
      refine lv_iconst (v := 1) hx hb dL_law_709 (by decide) ?_
      obtain ⟨r1114, hcl, hm⟩ := bnd hm
      refine kVp _ List.perm_append_comm C X (kX5_setting l g D R 1 w1106 w1107 w1108 w1109 w1110 w1111 r1114 hcl) (cw_L_law_X5_setting_82 C) 0 (ci := 5) rfl rfl (As := [.int 1]) rfl hl (rest := [.int x1105, .int c1101, .ref (a 0), .int x1104]) rfl (Nat.le_of_ble_eq_true rfl) (st2 := [.int r1114, .int x1105, .int c1101, .ref (a 0), .int x1104]) rfl dL_law_710 ⟨by have := hfit.1; show _ ≤ 600086; omega, by have := hfit.2; show _ ≤ 7301442; omega⟩ (w3 := wR g a na w1112 ++ wB g D R w1106 w1107 w1108 w1109 w1110 w1111) (List.Perm.refl _) (fun H locs X => ?_)
      clear hcl
      refine lv_aload_n hx hb dL_law_713 rfl (lv_at hl 1 rfl) ?_
      refine lv_iconst (v := 2) hx hb dL_law_714 (by decide) ?_
      obtain ⟨r1115, hcl, hm⟩ := bnd hm
      refine kVp _ List.perm_append_comm C X (kX5_setting l g D R 2 w1106 w1107 w1108 w1109 w1110 w1111 r1115 hcl) (cw_L_law_X5_setting_82 C) 0 (ci := 5) rfl rfl (As := [.int 2]) rfl hl (rest := [.int r1114, .int x1105, .int c1101, .ref (a 0), .int x1104]) rfl (Nat.le_of_ble_eq_true rfl) (st2 := [.int r1115, .int r1114, .int x1105, .int c1101, .ref (a 0), .int x1104]) rfl dL_law_715 ⟨by have := hfit.1; show _ ≤ 600086; omega, by have := hfit.2; show _ ≤ 7301442; omega⟩ (w3 := wR g a na w1112 ++ wB g D R w1106 w1107 w1108 w1109 w1110 w1111) (List.Perm.refl _) (fun H locs X => ?_)
      clear hcl
      obtain ⟨r1116, hcl, hm⟩ := bnd hm
      refine kSp _ (List.Perm.refl _) C X (kL_fixed l g a c1101 x1105 r1114 r1115 na w1112 r1116 hcl) (cw_L_law_L_fixed_85 C) (As := [.ref (a 0), .int c1101, .int x1105, .int r1114, .int r1115]) rfl hl (rest := [.int x1104]) rfl (Nat.le_of_ble_eq_true rfl) (st2 := [.int r1116, .int x1104]) rfl dL_law_718 ⟨by have := hfit.1; show _ ≤ 600086; omega, by have := hfit.2; show _ ≤ 7301442; omega⟩ (w3 := wR g a na w1112 ++ wB g D R w1106 w1107 w1108 w1109 w1110 w1111) List.perm_append_comm (fun H locs X => ?_)
      clear hcl
      obtain ⟨v1117, hE, hm⟩ := bnd hm
      have K : ∀ (H : Heap) (locs : List Loc) (ls : Array Slot), ST g A s H locs (wR g a na w1112 ++ wB g D R w1106 w1107 w1108 w1109 w1110 w1111) → lv_has ls 16 [(0, .ref b), (1, .ref (D 0 0)), (2, .ref (a 0)), (3, .int c1101), (5, .int c1102), (6, .int c1103), (14, .int x1105)] → W p l e room_1 s m args below meth c H locs cells slots Q (F0 m 732 ls [.int v1117, .int x1104]) := by
        intro H locs ls X hl
        clear hE
        refine lv_ior hx hb dL_law_732 ?_
        refine lv_istore (lv' := [(13, .int (x1104 ||| v1117)), (0, .ref b), (1, .ref (D 0 0)), (2, .ref (a 0)), (3, .int c1101), (5, .int c1102), (6, .int c1103), (14, .int x1105)]) hx hb dL_law_733 hl (by decide) rfl (fun ls hl => ?_)
        refine lv_iinc (v := x1105 + 1) (lv' := [(14, .int (x1105 + 1)), (13, .int (x1104 ||| v1117)), (0, .ref b), (1, .ref (D 0 0)), (2, .ref (a 0)), (3, .int c1101), (5, .int c1102), (6, .int c1103)]) hx hb dL_law_735 hl (k := 7) rfl rfl (by decide) rfl (fun ls hl => ?_)
        refine lv_goto (tgt := 696) hx hb dL_law_738 (by decide) ?_
        cases sm hm
        exact ih _ _ hm2 _ _ _ X (lv_sub hl [2, 3, 4, 5, 6, 7, 1, 0] rfl)
      clear hm
      have hm := hE
      clear hE
      refine lv_if_le (tgt := 731) hx hb dL_law_721 (by decide) (fun hc => ?_) (fun hc => ?_)
      · have hm := ifp hc hm
        refine lv_iconst (v := 0) hx hb dL_law_731 (by decide) ?_
        cases sm hm
        exact K _ _ _ X (lv_sub hl [0, 1, 2, 3, 4, 5, 7] rfl)
      · have hm := ifn hc hm
        refine lv_iconst (v := 1) hx hb dL_law_724 (by decide) ?_
        refine lv_iload hx hb dL_law_725 (lv_at hl 7 rfl) ?_
        refine lv_ishl hx hb dL_law_727 ?_
        refine lv_goto (tgt := 732) hx hb dL_law_728 (by decide) ?_
        cases sm hm
        exact K _ _ _ X (lv_sub hl [0, 1, 2, 3, 4, 5, 7] rfl)
noncomputable def sL_law_683 (i3 : Int32) (i4 : Int32) (i6 : Int32) (i8 : Int32) (na : Nat) (u : ShS) (ps : PS) (hs : HS) (f : (Nat → Int32)) : Option (Int32 × Int32 × ShS × PS × HS × (Nat → Int32)) := if 11 ≤ i8 then (sL_law_825 i3 i4 i8 na u ps hs f) else ((lL_law_696 i3 u f na 0 0).bind fun y1118 => ((if ((i6 >>> (5 &&& 31)) &&& 1) = 0 then ((fX5_setting 0 u).bind fun r1127 => (fL_split i3 y1118 r1127 na f).bind fun r1128 => some r1128) else ((fX5_setting 0 u).bind fun r1125 => (fL_fewest i3 y1118 r1125 na f).bind fun r1126 => some r1126)) : Option (Int32)).bind fun v1123 => (fL_simplify 0 ((i6 >>> (5 &&& 31)) &&& 1) u ps hs).bind fun (r1129, s1130, s1131, s1132) => (fL_ones v1123).bind fun r1134 => if r1129 = r1134 then ((fL_simplify 0 2 s1130 s1131 s1132).bind fun (r1135, s1136, s1137, s1138) => if r1135 = (-32) then ((fL_simplify 1 0 s1136 s1137 s1138).bind fun (r1140, s1141, s1142, s1143) => if r1140 = (-31) then (some (i3, v1123, s1141, s1142, s1143, f)) else none) else none) else none)
set_option maxRecDepth 100000 in
set_option maxHeartbeats 8000000 in
theorem gL_law_683 {p : Program} {l : Launch} {e : Env} {s : State} {m : MethodId} {args : Array Value} {below : List Frame} {meth : Method} {c : Code} {g : kG} {A : Nat → Prop} {Q : State → Prop} {b : Nat} (hl9 : l.stackTraces = false) (D : Nat → Nat → Nat) (a : Nat → Nat) (C : CT g p s m args meth c RL cL_law 16 (some .boolean) wsL_law A) (na : Nat) (i3 : Int32) (i4 : Int32) (i5 : Int32) (i6 : Int32) (i8 : Int32) (u : ShS) (ts : TS) (bs : SS) (ps : PS) (hs : HS) (ns : NS) (f : (Nat → Int32)) (z1 : Int32) (z2 : Int32) (z3 : ShS) (z4 : PS) (z5 : HS) (z6 : (Nat → Int32)) {cells slots : Nat} (hfit : cells + 80 ≤ 600086 ∧ slots + 2000 ≤ 7301442) (kk : ∀ (H : Heap) (locs : List Loc) (ls : Array Slot) (R : kAd), ST g A s H locs (wR g a na z6 ++ wB g D R z3 ts bs z4 z5 ns) → lv_has ls 16 [(0, .ref b), (1, .ref (D 0 0)), (2, .ref (a 0)), (3, .int z1), (4, .int z2), (5, .int i5), (6, .int i6)] → W p l e room_1 s m args below meth c H locs (cells + 80) (slots + 2000) Q (F0 m 928 ls [])) (hm : sL_law_683 i3 i4 i6 i8 na u ps hs f = some (z1, z2, z3, z4, z5, z6)) : ∀ (H : Heap) (locs : List Loc) (ls : Array Slot) (R : kAd), ST g A s H locs (wR g a na f ++ wB g D R u ts bs ps hs ns) → lv_has ls 16 [(0, .ref b), (1, .ref (D 0 0)), (2, .ref (a 0)), (3, .int i3), (4, .int i4), (5, .int i5), (6, .int i6), (8, .int i8)] → W p l e room_1 s m args below meth c H locs cells slots Q (F0 m 683 ls []) := by
  have hx := C.1
  have hb := C.2.1
  intro H locs ls R X hl
  rw [sL_law_683] at hm
  refine lv_iload hx hb dL_law_683 (lv_at hl 7 rfl) ?_
  refine lv_bipush (v := 11) hx hb dL_law_685 (by decide) ?_
  refine lv_icmp_ge (tgt := 825) hx hb dL_law_687 (by decide) (fun hc => ?_) (fun hc => ?_)
  · have hm := ifp hc hm
    refine W.widen (k := cells) (n := slots) (by omega) (by omega) ?_
    exact gL_law_825 hl9 D a C na i3 i4 i5 i6 i8 u ts bs ps hs ns f z1 z2 z3 z4 z5 z6 hfit kk hm _ _ _ R X (lv_sub hl [0, 1, 2, 3, 4, 5, 6, 7] rfl)
  · have hm := ifn hc hm
    refine lv_iconst (v := 0) hx hb dL_law_690 (by decide) ?_
    refine lv_istore (lv' := [(13, .int 0), (0, .ref b), (1, .ref (D 0 0)), (2, .ref (a 0)), (3, .int i3), (4, .int i4), (5, .int i5), (6, .int i6), (8, .int i8)]) hx hb dL_law_691 hl (by decide) rfl (fun ls hl => ?_)
    refine lv_iconst (v := 0) hx hb dL_law_693 (by decide) ?_
    refine lv_istore (lv' := [(14, .int 0), (13, .int 0), (0, .ref b), (1, .ref (D 0 0)), (2, .ref (a 0)), (3, .int i3), (4, .int i4), (5, .int i5), (6, .int i6), (8, .int i8)]) hx hb dL_law_694 hl (by decide) rfl (fun ls hl => ?_)
    obtain ⟨y1118, hL, hm⟩ := bnd hm
    obtain ⟨nn, hn⟩ := lp_run hL
    refine tL_law_696 D R a C ⟨by have := hfit.1; show _ ≤ 600086; omega, by have := hfit.2; show _ ≤ 7301442; omega⟩ i3 i5 i6 u ts bs ps hs ns f na y1118 (fun H locs ls X hl => ?_) nn _ _ hn _ _ _ X (lv_sub hl [2, 3, 4, 5, 7, 8, 1, 0] rfl)
    clear hL hn
    refine lv_iload hx hb dL_law_741 (lv_at hl 5 rfl) ?_
    refine lv_iconst (v := 5) hx hb dL_law_743 (by decide) ?_
    refine lv_ishr hx hb dL_law_744 ?_
    refine lv_iconst (v := 1) hx hb dL_law_745 (by decide) ?_
    refine lv_iand hx hb dL_law_746 ?_
    obtain ⟨v1123, hE, hm⟩ := bnd hm
    have K : ∀ (H : Heap) (locs : List Loc) (ls : Array Slot) (R1124 : kAd), ST g A s H locs (wR g a na f ++ wB g D R1124 u ts bs ps hs ns) → lv_has ls 16 [(0, .ref b), (1, .ref (D 0 0)), (2, .ref (a 0)), (3, .int i3), (5, .int i5), (6, .int i6)] → W p l e room_1 s m args below meth c H locs (cells + 0) (slots + 0) Q (F0 m 777 ls [.int v1123]) := by
      intro H locs ls R1124 X hl
      clear hE
      refine lv_istore (lv' := [(4, .int v1123), (0, .ref b), (1, .ref (D 0 0)), (2, .ref (a 0)), (3, .int i3), (5, .int i5), (6, .int i6)]) hx hb dL_law_777 hl (by decide) rfl (fun ls hl => ?_)
      refine lv_aload_n hx hb dL_law_779 rfl (lv_at hl 2 rfl) ?_
      refine lv_iconst (v := 0) hx hb dL_law_780 (by decide) ?_
      refine lv_iload hx hb dL_law_781 (lv_at hl 6 rfl) ?_
      refine lv_iconst (v := 5) hx hb dL_law_783 (by decide) ?_
      refine lv_ishr hx hb dL_law_784 ?_
      refine lv_iconst (v := 1) hx hb dL_law_785 (by decide) ?_
      refine lv_iand hx hb dL_law_786 ?_
      obtain ⟨⟨r1129, s1130, s1131, s1132⟩, hcl, hm⟩ := bnd hm
      refine keSW (wR g a na f) List.perm_append_comm C X (kL_simplify l hl9 g D R1124 0 ((i6 >>> (5 &&& 31)) &&& 1) u ts bs ps hs ns r1129 s1130 s1131 s1132 hcl) (cw_L_law_L_simplify_143 C) (As := [.ref (D 0 0), .int 0, .int ((i6 >>> (5 &&& 31)) &&& 1)]) rfl hl (rest := []) rfl (Nat.le_of_ble_eq_true rfl) (st2 := [.int r1129]) rfl dL_law_787 ⟨by have := hfit.1; show _ ≤ 600086; omega, by have := hfit.2; show _ ≤ 7301442; omega⟩ (w4 := fun R1133 => wR g a na f ++ wB g D R1133 s1130 ts bs s1131 s1132 ns) (fun _ => List.Perm.refl _) (fun R1133 H locs X => ?_)
      clear hcl
      refine lv_iload hx hb dL_law_790 (lv_at hl 0 rfl) ?_
      obtain ⟨r1134, hcl, hm⟩ := bnd hm
      refine kS0c C X (kL_ones l g v1123 r1134 hcl) (cw_L_law_L_ones_75 C) (As := [.int v1123]) rfl hl (rest := [.int r1129]) rfl (Nat.le_of_ble_eq_true rfl) (st2 := [.int r1134, .int r1129]) rfl dL_law_792 ⟨by have := hfit.1; show _ ≤ 600086; omega, by have := hfit.2; show _ ≤ 7301442; omega⟩ (fun H locs X => ?_)
      clear hcl
      refine lv_icmp_ne (tgt := 820) hx hb dL_law_795 (by decide) (fun hc => ?_) (fun hc => ?_)
      · have hm := ifn hc hm
        cases hm
      · have hm := ifp hc hm
        refine lv_aload_n hx hb dL_law_798 rfl (lv_at hl 2 rfl) ?_
        refine lv_iconst (v := 0) hx hb dL_law_799 (by decide) ?_
        refine lv_iconst (v := 2) hx hb dL_law_800 (by decide) ?_
        obtain ⟨⟨r1135, s1136, s1137, s1138⟩, hcl, hm⟩ := bnd hm
        refine keSW (wR g a na f) List.perm_append_comm C X (kL_simplify l hl9 g D R1133 0 2 s1130 ts bs s1131 s1132 ns r1135 s1136 s1137 s1138 hcl) (cw_L_law_L_simplify_143 C) (As := [.ref (D 0 0), .int 0, .int 2]) rfl hl (rest := []) rfl (Nat.le_of_ble_eq_true rfl) (st2 := [.int r1135]) rfl dL_law_801 ⟨by have := hfit.1; show _ ≤ 600086; omega, by have := hfit.2; show _ ≤ 7301442; omega⟩ (w4 := fun R1139 => wR g a na f ++ wB g D R1139 s1136 ts bs s1137 s1138 ns) (fun _ => List.Perm.refl _) (fun R1139 H locs X => ?_)
        clear hcl
        refine lv_bipush (v := (-32)) hx hb dL_law_804 (by decide) ?_
        refine lv_icmp_ne (tgt := 820) hx hb dL_law_806 (by decide) (fun hc => ?_) (fun hc => ?_)
        · have hm := ifn hc hm
          cases hm
        · have hm := ifp hc hm
          refine lv_aload_n hx hb dL_law_809 rfl (lv_at hl 2 rfl) ?_
          refine lv_iconst (v := 1) hx hb dL_law_810 (by decide) ?_
          refine lv_iconst (v := 0) hx hb dL_law_811 (by decide) ?_
          obtain ⟨⟨r1140, s1141, s1142, s1143⟩, hcl, hm⟩ := bnd hm
          refine keSW (wR g a na f) List.perm_append_comm C X (kL_simplify l hl9 g D R1139 1 0 s1136 ts bs s1137 s1138 ns r1140 s1141 s1142 s1143 hcl) (cw_L_law_L_simplify_143 C) (As := [.ref (D 0 0), .int 1, .int 0]) rfl hl (rest := []) rfl (Nat.le_of_ble_eq_true rfl) (st2 := [.int r1140]) rfl dL_law_812 ⟨by have := hfit.1; show _ ≤ 600086; omega, by have := hfit.2; show _ ≤ 7301442; omega⟩ (w4 := fun R1144 => wR g a na f ++ wB g D R1144 s1141 ts bs s1142 s1143 ns) (fun _ => List.Perm.refl _) (fun R1144 H locs X => ?_)
          clear hcl
          refine lv_bipush (v := (-31)) hx hb dL_law_815 (by decide) ?_
          refine lv_icmp_eq (tgt := 822) hx hb dL_law_817 (by decide) (fun hc => ?_) (fun hc => ?_)
          · have hm := ifp hc hm
            refine lv_goto (tgt := 928) hx hb dL_law_822 (by decide) ?_
            cases sm hm
            refine W.widen (k := cells + 80) (n := slots + 2000) (by omega) (by omega) ?_
            exact kk _ _ _ R1144 X (lv_sub hl [1, 2, 3, 4, 0, 5, 6] rfl)
          · have hm := ifn hc hm
            cases hm
    clear hm
    have hm := hE
    clear hE
    refine lv_if_ne (tgt := 765) hx hb dL_law_747 (by decide) (fun hc => ?_) (fun hc => ?_)
    · have hm := ifn hc hm
      refine lv_aload_n hx hb dL_law_765 rfl (lv_at hl 2 rfl) ?_
      refine lv_iload_n hx hb dL_law_766 rfl (lv_at hl 3 rfl) ?_
      refine lv_iload hx hb dL_law_767 (lv_at hl 6 rfl) ?_
      refine lv_aload_n hx hb dL_law_769 rfl (lv_at hl 1 rfl) ?_
      refine lv_iconst (v := 0) hx hb dL_law_770 (by decide) ?_
      obtain ⟨r1125, hcl, hm⟩ := bnd hm
      refine kVp _ List.perm_append_comm C X (kX5_setting l g D R 0 u ts bs ps hs ns r1125 hcl) (cw_L_law_X5_setting_82 C) 0 (ci := 5) rfl rfl (As := [.int 0]) rfl hl (rest := [.int y1118, .int i3, .ref (a 0)]) rfl (Nat.le_of_ble_eq_true rfl) (st2 := [.int r1125, .int y1118, .int i3, .ref (a 0)]) rfl dL_law_771 ⟨by have := hfit.1; show _ ≤ 600086; omega, by have := hfit.2; show _ ≤ 7301442; omega⟩ (w3 := wR g a na f ++ wB g D R u ts bs ps hs ns) (List.Perm.refl _) (fun H locs X => ?_)
      clear hcl
      obtain ⟨r1126, hcl, hm⟩ := bnd hm
      refine kSp _ (List.Perm.refl _) C X (kL_fewest l g a i3 y1118 r1125 na f r1126 hcl) (cw_L_law_L_fewest_109 C) (As := [.ref (a 0), .int i3, .int y1118, .int r1125]) rfl hl (rest := []) rfl (Nat.le_of_ble_eq_true rfl) (st2 := [.int r1126]) rfl dL_law_774 ⟨by have := hfit.1; show _ ≤ 600086; omega, by have := hfit.2; show _ ≤ 7301442; omega⟩ (w3 := wR g a na f ++ wB g D R u ts bs ps hs ns) List.perm_append_comm (fun H locs X => ?_)
      clear hcl
      cases sm hm
      refine W.widen (k := cells + 0) (n := slots + 0) (by omega) (by omega) ?_
      exact K _ _ _ R X (lv_sub hl [0, 1, 2, 3, 4, 5] rfl)
    · have hm := ifp hc hm
      refine lv_aload_n hx hb dL_law_750 rfl (lv_at hl 2 rfl) ?_
      refine lv_iload_n hx hb dL_law_751 rfl (lv_at hl 3 rfl) ?_
      refine lv_iload hx hb dL_law_752 (lv_at hl 6 rfl) ?_
      refine lv_aload_n hx hb dL_law_754 rfl (lv_at hl 1 rfl) ?_
      refine lv_iconst (v := 0) hx hb dL_law_755 (by decide) ?_
      obtain ⟨r1127, hcl, hm⟩ := bnd hm
      refine kVp _ List.perm_append_comm C X (kX5_setting l g D R 0 u ts bs ps hs ns r1127 hcl) (cw_L_law_X5_setting_82 C) 0 (ci := 5) rfl rfl (As := [.int 0]) rfl hl (rest := [.int y1118, .int i3, .ref (a 0)]) rfl (Nat.le_of_ble_eq_true rfl) (st2 := [.int r1127, .int y1118, .int i3, .ref (a 0)]) rfl dL_law_756 ⟨by have := hfit.1; show _ ≤ 600086; omega, by have := hfit.2; show _ ≤ 7301442; omega⟩ (w3 := wR g a na f ++ wB g D R u ts bs ps hs ns) (List.Perm.refl _) (fun H locs X => ?_)
      clear hcl
      obtain ⟨r1128, hcl, hm⟩ := bnd hm
      refine kSp _ (List.Perm.refl _) C X (kL_split l g a i3 y1118 r1127 na f r1128 hcl) (cw_L_law_L_split_115 C) (As := [.ref (a 0), .int i3, .int y1118, .int r1127]) rfl hl (rest := []) rfl (Nat.le_of_ble_eq_true rfl) (st2 := [.int r1128]) rfl dL_law_759 ⟨by have := hfit.1; show _ ≤ 600086; omega, by have := hfit.2; show _ ≤ 7301442; omega⟩ (w3 := wR g a na f ++ wB g D R u ts bs ps hs ns) List.perm_append_comm (fun H locs X => ?_)
      clear hcl
      refine lv_goto (tgt := 777) hx hb dL_law_762 (by decide) ?_
      cases sm hm
      refine W.widen (k := cells + 0) (n := slots + 0) (by omega) (by omega) ?_
      exact K _ _ _ R X (lv_sub hl [0, 1, 2, 3, 4, 5] rfl)
noncomputable def sL_law_560 (i3 : Int32) (i4 : Int32) (i6 : Int32) (i7 : Int32) (i8 : Int32) (na : Nat) (u : ShS) (ps : PS) (hs : HS) (f : (Nat → Int32)) : Option (Int32 × Int32 × ShS × PS × HS × (Nat → Int32)) := if i8 = 7 then ((fL_low i7 4).bind fun r2101 => ((if r2101 = 0 then ((fL_low (i7 >>> (2 &&& 31)) 12).bind fun r2109 => some r2109) else (if r2101 = 2 then ((fL_low (i7 >>> (2 &&& 31)) 20).bind fun r2108 => some (1 + r2108)) else ((fL_low (i7 >>> (2 &&& 31)) 101).bind fun r2107 => some r2107))) : Option (Int32)).bind fun v2105 => (fX5_setting r2101 u).bind fun r2110 => (fL_set r2101 v2105 u hs).bind fun (r2111, s2112, s2113) => if r2111 = r2110 then ((fL_set 2 0 s2112 s2113).bind fun (r2115, s2116, s2117) => if r2115 = (-32) then ((fL_set 4 0 s2116 s2117).bind fun (r2119, s2120, s2121) => if r2119 = (-31) then ((fL_set 0 51 s2120 s2121).bind fun (r2123, s2124, s2125) => if r2123 = (-32) then (some (i3, i4, s2124, ps, s2125, f)) else none) else none) else none) else none) else (sL_law_683 i3 i4 i6 i8 na u ps hs f)
set_option maxRecDepth 100000 in
set_option maxHeartbeats 8000000 in
theorem gL_law_560 {p : Program} {l : Launch} {e : Env} {s : State} {m : MethodId} {args : Array Value} {below : List Frame} {meth : Method} {c : Code} {g : kG} {A : Nat → Prop} {Q : State → Prop} {b : Nat} (hl9 : l.stackTraces = false) (D : Nat → Nat → Nat) (a : Nat → Nat) (C : CT g p s m args meth c RL cL_law 16 (some .boolean) wsL_law A) (na : Nat) (i3 : Int32) (i4 : Int32) (i5 : Int32) (i6 : Int32) (i7 : Int32) (i8 : Int32) (u : ShS) (ts : TS) (bs : SS) (ps : PS) (hs : HS) (ns : NS) (f : (Nat → Int32)) (z1 : Int32) (z2 : Int32) (z3 : ShS) (z4 : PS) (z5 : HS) (z6 : (Nat → Int32)) {cells slots : Nat} (hfit : cells + 80 ≤ 600086 ∧ slots + 2000 ≤ 7301442) (kk : ∀ (H : Heap) (locs : List Loc) (ls : Array Slot) (R : kAd), ST g A s H locs (wR g a na z6 ++ wB g D R z3 ts bs z4 z5 ns) → lv_has ls 16 [(0, .ref b), (1, .ref (D 0 0)), (2, .ref (a 0)), (3, .int z1), (4, .int z2), (5, .int i5), (6, .int i6)] → W p l e room_1 s m args below meth c H locs (cells + 80) (slots + 2000) Q (F0 m 928 ls [])) (hm : sL_law_560 i3 i4 i6 i7 i8 na u ps hs f = some (z1, z2, z3, z4, z5, z6)) : ∀ (H : Heap) (locs : List Loc) (ls : Array Slot) (R : kAd), ST g A s H locs (wR g a na f ++ wB g D R u ts bs ps hs ns) → lv_has ls 16 [(0, .ref b), (1, .ref (D 0 0)), (2, .ref (a 0)), (3, .int i3), (4, .int i4), (5, .int i5), (6, .int i6), (7, .int i7), (8, .int i8)] → W p l e room_1 s m args below meth c H locs cells slots Q (F0 m 560 ls []) := by
  have hx := C.1
  have hb := C.2.1
  intro H locs ls R X hl
  rw [sL_law_560] at hm
  refine lv_iload hx hb dL_law_560 (lv_at hl 8 rfl) ?_
  refine lv_bipush (v := 7) hx hb dL_law_562 (by decide) ?_
  refine lv_icmp_ne (tgt := 683) hx hb dL_law_564 (by decide) (fun hc => ?_) (fun hc => ?_)
  · have hm := ifn hc hm
    refine W.widen (k := cells) (n := slots) (by omega) (by omega) ?_
    exact gL_law_683 hl9 D a C na i3 i4 i5 i6 i8 u ts bs ps hs ns f z1 z2 z3 z4 z5 z6 hfit kk hm _ _ _ R X (lv_sub hl [0, 1, 2, 3, 4, 5, 6, 8] rfl)
  · have hm := ifp hc hm
    refine lv_iload hx hb dL_law_567 (lv_at hl 7 rfl) ?_
    refine lv_iconst (v := 4) hx hb dL_law_569 (by decide) ?_
    obtain ⟨r2101, hcl, hm⟩ := bnd hm
    refine kS0c C X (kL_low l g i7 4 r2101 hcl) (cw_L_law_L_low_106 C) (As := [.int i7, .int 4]) rfl hl (rest := []) rfl (Nat.le_of_ble_eq_true rfl) (st2 := [.int r2101]) rfl dL_law_570 ⟨by have := hfit.1; show _ ≤ 600086; omega, by have := hfit.2; show _ ≤ 7301442; omega⟩ (fun H locs X => ?_)
    clear hcl
    refine lv_istore (lv' := [(13, .int r2101), (0, .ref b), (1, .ref (D 0 0)), (2, .ref (a 0)), (3, .int i3), (4, .int i4), (5, .int i5), (6, .int i6), (7, .int i7), (8, .int i8)]) hx hb dL_law_573 hl (by decide) rfl (fun ls hl => ?_)
    refine lv_iload hx hb dL_law_575 (lv_at hl 0 rfl) ?_
    obtain ⟨v2105, hE, hm⟩ := bnd hm
    have K : ∀ (H : Heap) (locs : List Loc) (ls : Array Slot) (R2106 : kAd), ST g A s H locs (wR g a na f ++ wB g D R2106 u ts bs ps hs ns) → lv_has ls 16 [(0, .ref b), (1, .ref (D 0 0)), (2, .ref (a 0)), (3, .int i3), (4, .int i4), (5, .int i5), (6, .int i6), (13, .int r2101)] → W p l e room_1 s m args below meth c H locs (cells + 0) (slots + 0) Q (F0 m 621 ls [.int v2105]) := by
      intro H locs ls R2106 X hl
      clear hE
      refine lv_istore (lv' := [(14, .int v2105), (0, .ref b), (1, .ref (D 0 0)), (2, .ref (a 0)), (3, .int i3), (4, .int i4), (5, .int i5), (6, .int i6), (13, .int r2101)]) hx hb dL_law_621 hl (by decide) rfl (fun ls hl => ?_)
      refine lv_aload_n hx hb dL_law_623 rfl (lv_at hl 2 rfl) ?_
      refine lv_iload hx hb dL_law_624 (lv_at hl 8 rfl) ?_
      obtain ⟨r2110, hcl, hm⟩ := bnd hm
      refine kVp _ List.perm_append_comm C X (kX5_setting l g D R2106 r2101 u ts bs ps hs ns r2110 hcl) (cw_L_law_X5_setting_82 C) 0 (ci := 5) rfl rfl (As := [.int r2101]) rfl hl (rest := []) rfl (Nat.le_of_ble_eq_true rfl) (st2 := [.int r2110]) rfl dL_law_626 ⟨by have := hfit.1; show _ ≤ 600086; omega, by have := hfit.2; show _ ≤ 7301442; omega⟩ (w3 := wR g a na f ++ wB g D R2106 u ts bs ps hs ns) (List.Perm.refl _) (fun H locs X => ?_)
      clear hcl
      refine lv_istore (lv' := [(15, .int r2110), (14, .int v2105), (0, .ref b), (1, .ref (D 0 0)), (2, .ref (a 0)), (3, .int i3), (4, .int i4), (5, .int i5), (6, .int i6), (13, .int r2101)]) hx hb dL_law_629 hl (by decide) rfl (fun ls hl => ?_)
      refine lv_aload_n hx hb dL_law_631 rfl (lv_at hl 3 rfl) ?_
      refine lv_iload hx hb dL_law_632 (lv_at hl 9 rfl) ?_
      refine lv_iload hx hb dL_law_634 (lv_at hl 1 rfl) ?_
      obtain ⟨⟨r2111, s2112, s2113⟩, hcl, hm⟩ := bnd hm
      refine keSW (wR g a na f) List.perm_append_comm C X (kL_set l hl9 g D R2106 r2101 v2105 u ts bs ps hs ns r2111 s2112 s2113 hcl) (cw_L_law_L_set_141 C) (As := [.ref (D 0 0), .int r2101, .int v2105]) rfl hl (rest := []) rfl (Nat.le_of_ble_eq_true rfl) (st2 := [.int r2111]) rfl dL_law_636 ⟨by have := hfit.1; show _ ≤ 600086; omega, by have := hfit.2; show _ ≤ 7301442; omega⟩ (w4 := fun R2114 => wR g a na f ++ wB g D R2114 s2112 ts bs ps s2113 ns) (fun _ => List.Perm.refl _) (fun R2114 H locs X => ?_)
      clear hcl
      refine lv_iload hx hb dL_law_639 (lv_at hl 0 rfl) ?_
      refine lv_icmp_ne (tgt := 678) hx hb dL_law_641 (by decide) (fun hc => ?_) (fun hc => ?_)
      · have hm := ifn hc hm
        cases hm
      · have hm := ifp hc hm
        refine lv_aload_n hx hb dL_law_644 rfl (lv_at hl 3 rfl) ?_
        refine lv_iconst (v := 2) hx hb dL_law_645 (by decide) ?_
        refine lv_iconst (v := 0) hx hb dL_law_646 (by decide) ?_
        obtain ⟨⟨r2115, s2116, s2117⟩, hcl, hm⟩ := bnd hm
        refine keSW (wR g a na f) List.perm_append_comm C X (kL_set l hl9 g D R2114 2 0 s2112 ts bs ps s2113 ns r2115 s2116 s2117 hcl) (cw_L_law_L_set_141 C) (As := [.ref (D 0 0), .int 2, .int 0]) rfl hl (rest := []) rfl (Nat.le_of_ble_eq_true rfl) (st2 := [.int r2115]) rfl dL_law_647 ⟨by have := hfit.1; show _ ≤ 600086; omega, by have := hfit.2; show _ ≤ 7301442; omega⟩ (w4 := fun R2118 => wR g a na f ++ wB g D R2118 s2116 ts bs ps s2117 ns) (fun _ => List.Perm.refl _) (fun R2118 H locs X => ?_)
        clear hcl
        refine lv_bipush (v := (-32)) hx hb dL_law_650 (by decide) ?_
        refine lv_icmp_ne (tgt := 678) hx hb dL_law_652 (by decide) (fun hc => ?_) (fun hc => ?_)
        · have hm := ifn hc hm
          cases hm
        · have hm := ifp hc hm
          refine lv_aload_n hx hb dL_law_655 rfl (lv_at hl 3 rfl) ?_
          refine lv_iconst (v := 4) hx hb dL_law_656 (by decide) ?_
          refine lv_iconst (v := 0) hx hb dL_law_657 (by decide) ?_
          obtain ⟨⟨r2119, s2120, s2121⟩, hcl, hm⟩ := bnd hm
          refine keSW (wR g a na f) List.perm_append_comm C X (kL_set l hl9 g D R2118 4 0 s2116 ts bs ps s2117 ns r2119 s2120 s2121 hcl) (cw_L_law_L_set_141 C) (As := [.ref (D 0 0), .int 4, .int 0]) rfl hl (rest := []) rfl (Nat.le_of_ble_eq_true rfl) (st2 := [.int r2119]) rfl dL_law_658 ⟨by have := hfit.1; show _ ≤ 600086; omega, by have := hfit.2; show _ ≤ 7301442; omega⟩ (w4 := fun R2122 => wR g a na f ++ wB g D R2122 s2120 ts bs ps s2121 ns) (fun _ => List.Perm.refl _) (fun R2122 H locs X => ?_)
          clear hcl
          refine lv_bipush (v := (-31)) hx hb dL_law_661 (by decide) ?_
          refine lv_icmp_ne (tgt := 678) hx hb dL_law_663 (by decide) (fun hc => ?_) (fun hc => ?_)
          · have hm := ifn hc hm
            cases hm
          · have hm := ifp hc hm
            refine lv_aload_n hx hb dL_law_666 rfl (lv_at hl 3 rfl) ?_
            refine lv_iconst (v := 0) hx hb dL_law_667 (by decide) ?_
            refine lv_bipush (v := 51) hx hb dL_law_668 (by decide) ?_
            obtain ⟨⟨r2123, s2124, s2125⟩, hcl, hm⟩ := bnd hm
            refine keSW (wR g a na f) List.perm_append_comm C X (kL_set l hl9 g D R2122 0 51 s2120 ts bs ps s2121 ns r2123 s2124 s2125 hcl) (cw_L_law_L_set_141 C) (As := [.ref (D 0 0), .int 0, .int 51]) rfl hl (rest := []) rfl (Nat.le_of_ble_eq_true rfl) (st2 := [.int r2123]) rfl dL_law_670 ⟨by have := hfit.1; show _ ≤ 600086; omega, by have := hfit.2; show _ ≤ 7301442; omega⟩ (w4 := fun R2126 => wR g a na f ++ wB g D R2126 s2124 ts bs ps s2125 ns) (fun _ => List.Perm.refl _) (fun R2126 H locs X => ?_)
            clear hcl
            refine lv_bipush (v := (-32)) hx hb dL_law_673 (by decide) ?_
            refine lv_icmp_eq (tgt := 680) hx hb dL_law_675 (by decide) (fun hc => ?_) (fun hc => ?_)
            · have hm := ifp hc hm
              refine lv_goto (tgt := 928) hx hb dL_law_680 (by decide) ?_
              cases sm hm
              refine W.widen (k := cells + 80) (n := slots + 2000) (by omega) (by omega) ?_
              exact kk _ _ _ R2126 X (lv_sub hl [2, 3, 4, 5, 6, 7, 8] rfl)
            · have hm := ifn hc hm
              cases hm
    clear hm
    have hm := hE
    clear hE
    refine lv_if_ne (tgt := 592) hx hb dL_law_577 (by decide) (fun hc => ?_) (fun hc => ?_)
    · have hm := ifn hc hm
      refine lv_iload hx hb dL_law_592 (lv_at hl 0 rfl) ?_
      refine lv_iconst (v := 2) hx hb dL_law_594 (by decide) ?_
      refine lv_icmp_ne (tgt := 612) hx hb dL_law_595 (by decide) (fun hc => ?_) (fun hc => ?_)
      · have hm := ifn hc hm
        refine lv_iload hx hb dL_law_612 (lv_at hl 8 rfl) ?_
        refine lv_iconst (v := 2) hx hb dL_law_614 (by decide) ?_
        refine lv_ishr hx hb dL_law_615 ?_
        refine lv_bipush (v := 101) hx hb dL_law_616 (by decide) ?_
        obtain ⟨r2107, hcl, hm⟩ := bnd hm
        refine kS0c C X (kL_low l g (i7 >>> (2 &&& 31)) 101 r2107 hcl) (cw_L_law_L_low_106 C) (As := [.int (i7 >>> (2 &&& 31)), .int 101]) rfl hl (rest := []) rfl (Nat.le_of_ble_eq_true rfl) (st2 := [.int r2107]) rfl dL_law_618 ⟨by have := hfit.1; show _ ≤ 600086; omega, by have := hfit.2; show _ ≤ 7301442; omega⟩ (fun H locs X => ?_)
        clear hcl
        cases sm hm
        refine W.widen (k := cells + 0) (n := slots + 0) (by omega) (by omega) ?_
        exact K _ _ _ R X (lv_sub hl [1, 2, 3, 4, 5, 6, 7, 0] rfl)
      · have hm := ifp hc hm
        refine lv_iconst (v := 1) hx hb dL_law_598 (by decide) ?_
        refine lv_iload hx hb dL_law_599 (lv_at hl 8 rfl) ?_
        refine lv_iconst (v := 2) hx hb dL_law_601 (by decide) ?_
        refine lv_ishr hx hb dL_law_602 ?_
        refine lv_bipush (v := 20) hx hb dL_law_603 (by decide) ?_
        obtain ⟨r2108, hcl, hm⟩ := bnd hm
        refine kS0c C X (kL_low l g (i7 >>> (2 &&& 31)) 20 r2108 hcl) (cw_L_law_L_low_106 C) (As := [.int (i7 >>> (2 &&& 31)), .int 20]) rfl hl (rest := [.int 1]) rfl (Nat.le_of_ble_eq_true rfl) (st2 := [.int r2108, .int 1]) rfl dL_law_605 ⟨by have := hfit.1; show _ ≤ 600086; omega, by have := hfit.2; show _ ≤ 7301442; omega⟩ (fun H locs X => ?_)
        clear hcl
        refine lv_iadd hx hb dL_law_608 ?_
        refine lv_goto (tgt := 621) hx hb dL_law_609 (by decide) ?_
        cases sm hm
        refine W.widen (k := cells + 0) (n := slots + 0) (by omega) (by omega) ?_
        exact K _ _ _ R X (lv_sub hl [1, 2, 3, 4, 5, 6, 7, 0] rfl)
    · have hm := ifp hc hm
      refine lv_iload hx hb dL_law_580 (lv_at hl 8 rfl) ?_
      refine lv_iconst (v := 2) hx hb dL_law_582 (by decide) ?_
      refine lv_ishr hx hb dL_law_583 ?_
      refine lv_bipush (v := 12) hx hb dL_law_584 (by decide) ?_
      obtain ⟨r2109, hcl, hm⟩ := bnd hm
      refine kS0c C X (kL_low l g (i7 >>> (2 &&& 31)) 12 r2109 hcl) (cw_L_law_L_low_106 C) (As := [.int (i7 >>> (2 &&& 31)), .int 12]) rfl hl (rest := []) rfl (Nat.le_of_ble_eq_true rfl) (st2 := [.int r2109]) rfl dL_law_586 ⟨by have := hfit.1; show _ ≤ 600086; omega, by have := hfit.2; show _ ≤ 7301442; omega⟩ (fun H locs X => ?_)
      clear hcl
      refine lv_goto (tgt := 621) hx hb dL_law_589 (by decide) ?_
      cases sm hm
      refine W.widen (k := cells + 0) (n := slots + 0) (by omega) (by omega) ?_
      exact K _ _ _ R X (lv_sub hl [1, 2, 3, 4, 5, 6, 7, 0] rfl)
noncomputable def bL_law_482 (c3112 : Int32) (na : Nat) : Int32 × (Nat → Int32) → Option ((Int32 × (Nat → Int32)) ⊕ ((Nat → Int32)))
  | (x3116, u3123) => if (c3112 - 1) ≤ x3116 then (some (.inr u3123)) else (gd (inb ((3 * x3116) + 3) na) (gd (inb ((3 * x3116) + 4) na) (gd (inb ((3 * x3116) + 5) na) ((fL_put x3116 (u3123 ((3 * x3116) + 3).toNatClampNeg) (u3123 ((3 * x3116) + 4).toNatClampNeg) (u3123 ((3 * x3116) + 5).toNatClampNeg) na u3123).bind fun u3125 => some (.inl (x3116 + 1, u3125))))))
noncomputable def lL_law_482 (c3112 : Int32) (na : Nat) (x3116 : Int32) (u3123 : (Nat → Int32)) : Option ((Nat → Int32)) := lp (bL_law_482 c3112 na) (x3116, u3123)
theorem lL_law_482_eq (c3112 : Int32) (na : Nat) (x3116 : Int32) (u3123 : (Nat → Int32)) : lL_law_482 c3112 na x3116 u3123 = (if (c3112 - 1) ≤ x3116 then (some (.inr u3123)) else (gd (inb ((3 * x3116) + 3) na) (gd (inb ((3 * x3116) + 4) na) (gd (inb ((3 * x3116) + 5) na) ((fL_put x3116 (u3123 ((3 * x3116) + 3).toNatClampNeg) (u3123 ((3 * x3116) + 4).toNatClampNeg) (u3123 ((3 * x3116) + 5).toNatClampNeg) na u3123).bind fun u3125 => some (.inl (x3116 + 1, u3125))))))).bind fun r => Sum.elim (fun z => lL_law_482 c3112 na z.1 z.2) (fun r => some r) r := lp_eq (bL_law_482 c3112 na) (x3116, u3123)
set_option maxRecDepth 100000 in
set_option maxHeartbeats 4000000 in
theorem tL_law_482 {p : Program} {l : Launch} {e : Env} {s : State} {m : MethodId} {args : Array Value} {below : List Frame} {meth : Method} {c : Code} {g : kG} {A : Nat → Prop} {Q : State → Prop} {b : Nat} (D : Nat → Nat → Nat) (R : kAd) (a : Nat → Nat) (C : CT g p s m args meth c RL cL_law 16 (some .boolean) wsL_law A) {cells slots : Nat} (hfit : cells ≤ 600086 ∧ slots ≤ 7301442) (c3112 : Int32) (c3113 : Int32) (c3114 : Int32) (c3115 : Int32) (w3117 : ShS) (w3118 : TS) (w3119 : SS) (w3120 : PS) (w3121 : HS) (w3122 : NS) (na : Nat) (u3124 : (Nat → Int32)) (kk : ∀ (H : Heap) (locs : List Loc) (ls : Array Slot), ST g A s H locs (wR g a na u3124 ++ wB g D R w3117 w3118 w3119 w3120 w3121 w3122) → lv_has ls 16 [(0, .ref b), (1, .ref (D 0 0)), (2, .ref (a 0)), (3, .int c3112), (5, .int c3113), (6, .int c3114), (12, .int c3115)] → W p l e room_1 s m args below meth c H locs cells slots Q (F0 m 526 ls [])) : ∀ (n : Nat) (x3116 : Int32) (u3123 : (Nat → Int32)), whl (bL_law_482 c3112 na) n (x3116, u3123) = some u3124 → ∀ (H : Heap) (locs : List Loc) (ls : Array Slot), ST g A s H locs (wR g a na u3123 ++ wB g D R w3117 w3118 w3119 w3120 w3121 w3122) → lv_has ls 16 [(0, .ref b), (1, .ref (D 0 0)), (2, .ref (a 0)), (3, .int c3112), (5, .int c3113), (6, .int c3114), (12, .int c3115), (13, .int x3116)] → W p l e room_1 s m args below meth c H locs cells slots Q (F0 m 482 ls []) := by
  have hx := C.1
  have hb := C.2.1
  intro n
  induction n with
  | zero =>
    intro x3116 u3123 hm
    cases hm
  | succ n ih =>
    intro x3116 u3123 hm H locs ls X hl
    rw [whl] at hm
    obtain ⟨q, hq, hm2⟩ := bnd hm
    clear hm
    have hm := hq
    clear hq
    rw [bL_law_482] at hm
    refine lv_iload hx hb dL_law_482 (lv_at hl 7 rfl) ?_
    refine lv_iload_n hx hb dL_law_484 rfl (lv_at hl 3 rfl) ?_
    refine lv_iconst (v := 1) hx hb dL_law_485 (by decide) ?_
    refine lv_isub hx hb dL_law_486 ?_
    refine lv_icmp_ge (tgt := 526) hx hb dL_law_487 (by decide) (fun hc => ?_) (fun hc => ?_)
    · have hm := ifp hc hm
      cases sm hm
      cases sm hm2
      exact kk _ _ _ X (lv_sub hl [0, 1, 2, 3, 4, 5, 6] rfl)
    · have hm := ifn hc hm
      refine lv_aload_n hx hb dL_law_490 rfl (lv_at hl 2 rfl) ?_
      refine lv_iload hx hb dL_law_491 (lv_at hl 7 rfl) ?_
      refine lv_aload_n hx hb dL_law_493 rfl (lv_at hl 2 rfl) ?_
      refine lv_iconst (v := 3) hx hb dL_law_494 (by decide) ?_
      refine lv_iload hx hb dL_law_495 (lv_at hl 7 rfl) ?_
      refine lv_imul hx hb dL_law_497 ?_
      refine lv_iconst (v := 3) hx hb dL_law_498 (by decide) ?_
      refine lv_iadd hx hb dL_law_499 ?_
      obtain ⟨hgi, hm⟩ := gd_t hm
      refine kiald C X 0 rfl hgi dL_law_500 ?_
      refine lv_aload_n hx hb dL_law_501 rfl (lv_at hl 2 rfl) ?_
      refine lv_iconst (v := 3) hx hb dL_law_502 (by decide) ?_
      refine lv_iload hx hb dL_law_503 (lv_at hl 7 rfl) ?_
      refine lv_imul hx hb dL_law_505 ?_
      refine lv_iconst (v := 4) hx hb dL_law_506 (by decide) ?_
      refine lv_iadd hx hb dL_law_507 ?_
      obtain ⟨hgi, hm⟩ := gd_t hm
      refine kiald C X 0 rfl hgi dL_law_508 ?_
      refine lv_aload_n hx hb dL_law_509 rfl (lv_at hl 2 rfl) ?_
      refine lv_iconst (v := 3) hx hb dL_law_510 (by decide) ?_
      refine lv_iload hx hb dL_law_511 (lv_at hl 7 rfl) ?_
      refine lv_imul hx hb dL_law_513 ?_
      refine lv_iconst (v := 5) hx hb dL_law_514 (by decide) ?_
      refine lv_iadd hx hb dL_law_515 ?_
      obtain ⟨hgi, hm⟩ := gd_t hm
      refine kiald C X 0 rfl hgi dL_law_516 ?_
      obtain ⟨u3125, hcl, hm⟩ := bnd hm
      refine kSp _ (List.Perm.refl _) C X (kL_put l g a x3116 (u3123 ((3 * x3116) + 3).toNatClampNeg) (u3123 ((3 * x3116) + 4).toNatClampNeg) (u3123 ((3 * x3116) + 5).toNatClampNeg) na u3123 u3125 hcl) (cw_L_law_L_put_122 C) (As := [.ref (a 0), .int x3116, .int (u3123 ((3 * x3116) + 3).toNatClampNeg), .int (u3123 ((3 * x3116) + 4).toNatClampNeg), .int (u3123 ((3 * x3116) + 5).toNatClampNeg)]) rfl hl (rest := []) rfl (Nat.le_of_ble_eq_true rfl) (st2 := []) rfl dL_law_517 ⟨by have := hfit.1; show _ ≤ 600086; omega, by have := hfit.2; show _ ≤ 7301442; omega⟩ (w3 := wR g a na u3125 ++ wB g D R w3117 w3118 w3119 w3120 w3121 w3122) List.perm_append_comm (fun H locs X => ?_)
      clear hcl
      refine lv_iinc (v := x3116 + 1) (lv' := [(13, .int (x3116 + 1)), (0, .ref b), (1, .ref (D 0 0)), (2, .ref (a 0)), (3, .int c3112), (5, .int c3113), (6, .int c3114), (12, .int c3115)]) hx hb dL_law_520 hl (k := 7) rfl rfl (by decide) rfl (fun ls hl => ?_)
      refine lv_goto (tgt := 482) hx hb dL_law_523 (by decide) ?_
      cases sm hm
      exact ih _ _ hm2 _ _ _ X (lv_sub hl [1, 2, 3, 4, 5, 6, 7, 0] rfl)
noncomputable def sL_law_441 (i3 : Int32) (i4 : Int32) (i6 : Int32) (i7 : Int32) (i8 : Int32) (i12 : Int32) (na : Nat) (u : ShS) (ps : PS) (hs : HS) (f : (Nat → Int32)) : Option (Int32 × Int32 × ShS × PS × HS × (Nat → Int32)) := if i8 = 6 then (if i3 ≤ i12 then (sL_law_560 i3 i4 i6 i7 i8 na u ps hs f) else (((if i3 = 2 then ((fL_remove 0 i12 u hs).bind fun (r3108, s3109, s3110) => if r3108 = (-33) then (some (s3109, s3110)) else none) else (some (u, hs))) : Option (ShS × HS)).bind fun (u3106, u3107) => if i3 ≤ 2 then (some (i3, i4, u3106, ps, u3107, f)) else ((lL_law_482 i3 na i12 f).bind fun u3126 => (fL_remove 0 i12 u3106 u3107).bind fun (r3127, s3128, s3129) => if r3127 = (i3 + (-1)) then ((fL_remove 1 0 s3128 s3129).bind fun (r3131, s3132, s3133) => if r3131 = (-31) then (some (i3 + (-1), (1 <<< ((i3 + (-1)) &&& 31)) - 1, s3132, ps, s3133, u3126)) else none) else none))) else (sL_law_560 i3 i4 i6 i7 i8 na u ps hs f)
set_option maxRecDepth 100000 in
set_option maxHeartbeats 8000000 in
theorem gL_law_441 {p : Program} {l : Launch} {e : Env} {s : State} {m : MethodId} {args : Array Value} {below : List Frame} {meth : Method} {c : Code} {g : kG} {A : Nat → Prop} {Q : State → Prop} {b : Nat} (hl9 : l.stackTraces = false) (D : Nat → Nat → Nat) (a : Nat → Nat) (C : CT g p s m args meth c RL cL_law 16 (some .boolean) wsL_law A) (na : Nat) (i3 : Int32) (i4 : Int32) (i5 : Int32) (i6 : Int32) (i7 : Int32) (i8 : Int32) (i12 : Int32) (u : ShS) (ts : TS) (bs : SS) (ps : PS) (hs : HS) (ns : NS) (f : (Nat → Int32)) (z1 : Int32) (z2 : Int32) (z3 : ShS) (z4 : PS) (z5 : HS) (z6 : (Nat → Int32)) {cells slots : Nat} (hfit : cells + 80 ≤ 600086 ∧ slots + 2000 ≤ 7301442) (kk : ∀ (H : Heap) (locs : List Loc) (ls : Array Slot) (R : kAd), ST g A s H locs (wR g a na z6 ++ wB g D R z3 ts bs z4 z5 ns) → lv_has ls 16 [(0, .ref b), (1, .ref (D 0 0)), (2, .ref (a 0)), (3, .int z1), (4, .int z2), (5, .int i5), (6, .int i6)] → W p l e room_1 s m args below meth c H locs (cells + 80) (slots + 2000) Q (F0 m 928 ls [])) (hm : sL_law_441 i3 i4 i6 i7 i8 i12 na u ps hs f = some (z1, z2, z3, z4, z5, z6)) : ∀ (H : Heap) (locs : List Loc) (ls : Array Slot) (R : kAd), ST g A s H locs (wR g a na f ++ wB g D R u ts bs ps hs ns) → lv_has ls 16 [(0, .ref b), (1, .ref (D 0 0)), (2, .ref (a 0)), (3, .int i3), (4, .int i4), (5, .int i5), (6, .int i6), (7, .int i7), (8, .int i8), (12, .int i12)] → W p l e room_1 s m args below meth c H locs cells slots Q (F0 m 441 ls []) := by
  have hx := C.1
  have hb := C.2.1
  intro H locs ls R X hl
  rw [sL_law_441] at hm
  refine lv_iload hx hb dL_law_441 (lv_at hl 8 rfl) ?_
  refine lv_bipush (v := 6) hx hb dL_law_443 (by decide) ?_
  refine lv_icmp_ne (tgt := 560) hx hb dL_law_445 (by decide) (fun hc => ?_) (fun hc => ?_)
  · have hm := ifn hc hm
    refine W.widen (k := cells) (n := slots) (by omega) (by omega) ?_
    exact gL_law_560 hl9 D a C na i3 i4 i5 i6 i7 i8 u ts bs ps hs ns f z1 z2 z3 z4 z5 z6 hfit kk hm _ _ _ R X (lv_sub hl [0, 1, 2, 3, 4, 5, 6, 7, 8] rfl)
  · have hm := ifp hc hm
    refine lv_iload hx hb dL_law_448 (lv_at hl 9 rfl) ?_
    refine lv_iload_n hx hb dL_law_450 rfl (lv_at hl 3 rfl) ?_
    refine lv_icmp_ge (tgt := 560) hx hb dL_law_451 (by decide) (fun hc => ?_) (fun hc => ?_)
    · have hm := ifp hc hm
      refine W.widen (k := cells) (n := slots) (by omega) (by omega) ?_
      exact gL_law_560 hl9 D a C na i3 i4 i5 i6 i7 i8 u ts bs ps hs ns f z1 z2 z3 z4 z5 z6 hfit kk hm _ _ _ R X (lv_sub hl [0, 1, 2, 3, 4, 5, 6, 7, 8] rfl)
    · have hm := ifn hc hm
      refine lv_iload_n hx hb dL_law_454 rfl (lv_at hl 3 rfl) ?_
      refine lv_iconst (v := 2) hx hb dL_law_455 (by decide) ?_
      obtain ⟨⟨u3106, u3107⟩, hE, hm⟩ := bnd hm
      have K : ∀ (H : Heap) (locs : List Loc) (ls : Array Slot) (R3105 : kAd), ST g A s H locs (wR g a na f ++ wB g D R3105 u3106 ts bs ps u3107 ns) → lv_has ls 16 [(0, .ref b), (1, .ref (D 0 0)), (2, .ref (a 0)), (3, .int i3), (4, .int i4), (5, .int i5), (6, .int i6), (12, .int i12)] → W p l e room_1 s m args below meth c H locs (cells + 15) (slots + 401) Q (F0 m 473 ls []) := by
        intro H locs ls R3105 X hl
        clear hE
        refine lv_iload_n hx hb dL_law_473 rfl (lv_at hl 3 rfl) ?_
        refine lv_iconst (v := 2) hx hb dL_law_474 (by decide) ?_
        refine lv_icmp_le (tgt := 928) hx hb dL_law_475 (by decide) (fun hc => ?_) (fun hc => ?_)
        · have hm := ifp hc hm
          cases sm hm
          refine W.widen (k := cells + 80) (n := slots + 2000) (by omega) (by omega) ?_
          exact kk _ _ _ R3105 X (lv_sub hl [0, 1, 2, 3, 4, 5, 6] rfl)
        · have hm := ifn hc hm
          refine lv_iload hx hb dL_law_478 (lv_at hl 7 rfl) ?_
          refine lv_istore (lv' := [(13, .int i12), (0, .ref b), (1, .ref (D 0 0)), (2, .ref (a 0)), (3, .int i3), (4, .int i4), (5, .int i5), (6, .int i6), (12, .int i12)]) hx hb dL_law_480 hl (by decide) rfl (fun ls hl => ?_)
          obtain ⟨u3126, hL, hm⟩ := bnd hm
          obtain ⟨nn, hn⟩ := lp_run hL
          refine tL_law_482 D R3105 a C ⟨by have := hfit.1; show _ ≤ 600086; omega, by have := hfit.2; show _ ≤ 7301442; omega⟩ i3 i5 i6 i12 u3106 ts bs ps u3107 ns na u3126 (fun H locs ls X hl => ?_) nn _ _ hn _ _ _ X (lv_sub hl [1, 2, 3, 4, 6, 7, 8, 0] rfl)
          clear hL hn
          refine lv_iinc (v := i3 + (-1)) (lv' := [(3, .int (i3 + (-1))), (0, .ref b), (1, .ref (D 0 0)), (2, .ref (a 0)), (5, .int i5), (6, .int i6), (12, .int i12)]) hx hb dL_law_526 hl (k := 3) rfl rfl (by decide) rfl (fun ls hl => ?_)
          refine lv_iconst (v := 1) hx hb dL_law_529 (by decide) ?_
          refine lv_iload_n hx hb dL_law_530 rfl (lv_at hl 0 rfl) ?_
          refine lv_ishl hx hb dL_law_531 ?_
          refine lv_iconst (v := 1) hx hb dL_law_532 (by decide) ?_
          refine lv_isub hx hb dL_law_533 ?_
          refine lv_istore (lv' := [(4, .int ((1 <<< ((i3 + (-1)) &&& 31)) - 1)), (3, .int (i3 + (-1))), (0, .ref b), (1, .ref (D 0 0)), (2, .ref (a 0)), (5, .int i5), (6, .int i6), (12, .int i12)]) hx hb dL_law_534 hl (by decide) rfl (fun ls hl => ?_)
          refine lv_aload_n hx hb dL_law_536 rfl (lv_at hl 3 rfl) ?_
          refine lv_iconst (v := 0) hx hb dL_law_537 (by decide) ?_
          refine lv_iload hx hb dL_law_538 (lv_at hl 7 rfl) ?_
          obtain ⟨⟨r3127, s3128, s3129⟩, hcl, hm⟩ := bnd hm
          refine keSW (wR g a na u3126) List.perm_append_comm C X (kL_remove l hl9 g D R3105 0 i12 u3106 ts bs ps u3107 ns r3127 s3128 s3129 hcl) (cw_L_law_L_remove_138 C) (As := [.ref (D 0 0), .int 0, .int i12]) rfl hl (rest := []) rfl (Nat.le_of_ble_eq_true rfl) (st2 := [.int r3127]) rfl dL_law_540 ⟨by have := hfit.1; show _ ≤ 600086; omega, by have := hfit.2; show _ ≤ 7301442; omega⟩ (w4 := fun R3130 => wR g a na u3126 ++ wB g D R3130 s3128 ts bs ps s3129 ns) (fun _ => List.Perm.refl _) (fun R3130 H locs X => ?_)
          clear hcl
          refine lv_iload_n hx hb dL_law_543 rfl (lv_at hl 1 rfl) ?_
          refine lv_icmp_ne (tgt := 558) hx hb dL_law_544 (by decide) (fun hc => ?_) (fun hc => ?_)
          · have hm := ifn hc hm
            cases hm
          · have hm := ifp hc hm
            refine lv_aload_n hx hb dL_law_547 rfl (lv_at hl 3 rfl) ?_
            refine lv_iconst (v := 1) hx hb dL_law_548 (by decide) ?_
            refine lv_iconst (v := 0) hx hb dL_law_549 (by decide) ?_
            obtain ⟨⟨r3131, s3132, s3133⟩, hcl, hm⟩ := bnd hm
            refine keSW (wR g a na u3126) List.perm_append_comm C X (kL_remove l hl9 g D R3130 1 0 s3128 ts bs ps s3129 ns r3131 s3132 s3133 hcl) (cw_L_law_L_remove_138 C) (As := [.ref (D 0 0), .int 1, .int 0]) rfl hl (rest := []) rfl (Nat.le_of_ble_eq_true rfl) (st2 := [.int r3131]) rfl dL_law_550 ⟨by have := hfit.1; show _ ≤ 600086; omega, by have := hfit.2; show _ ≤ 7301442; omega⟩ (w4 := fun R3134 => wR g a na u3126 ++ wB g D R3134 s3132 ts bs ps s3133 ns) (fun _ => List.Perm.refl _) (fun R3134 H locs X => ?_)
            clear hcl
            refine lv_bipush (v := (-31)) hx hb dL_law_553 (by decide) ?_
            refine lv_icmp_eq (tgt := 928) hx hb dL_law_555 (by decide) (fun hc => ?_) (fun hc => ?_)
            · have hm := ifp hc hm
              have hz := sm hm
              clear hm
              obtain ⟨e1, e2, e3, e4, e5, e6⟩ : i3 + (-1) = z1 ∧ (1 <<< ((i3 + (-1)) &&& 31)) - 1 = z2 ∧ s3132 = z3 ∧ ps = z4 ∧ s3133 = z5 ∧ u3126 = z6 := ⟨congrArg (fun q => q.1) hz, congrArg (fun q => q.2.1) hz, congrArg (fun q => q.2.2.1) hz, congrArg (fun q => q.2.2.2.1) hz, congrArg (fun q => q.2.2.2.2.1) hz, congrArg (fun q => q.2.2.2.2.2) hz⟩
              clear hz
              subst e1
              subst e2
              subst e3
              subst e4
              subst e5
              subst e6
              refine W.widen (k := cells + 80) (n := slots + 2000) (by omega) (by omega) ?_
              exact kk _ _ _ R3134 X (lv_sub hl [2, 3, 4, 1, 0, 5, 6] rfl)
            · have hm := ifn hc hm
              cases hm
      clear hm
      have hm := hE
      clear hE
      refine lv_icmp_ne (tgt := 473) hx hb dL_law_456 (by decide) (fun hc => ?_) (fun hc => ?_)
      · have hm := ifn hc hm
        cases sm hm
        refine W.widen (k := cells + 15) (n := slots + 401) (by omega) (by omega) ?_
        exact K _ _ _ R X (lv_sub hl [0, 1, 2, 3, 4, 5, 6, 9] rfl)
      · have hm := ifp hc hm
        refine lv_aload_n hx hb dL_law_459 rfl (lv_at hl 1 rfl) ?_
        refine lv_iconst (v := 0) hx hb dL_law_460 (by decide) ?_
        refine lv_iload hx hb dL_law_461 (lv_at hl 9 rfl) ?_
        obtain ⟨⟨r3108, s3109, s3110⟩, hcl, hm⟩ := bnd hm
        refine keSW (wR g a na f) List.perm_append_comm C X (kL_remove l hl9 g D R 0 i12 u ts bs ps hs ns r3108 s3109 s3110 hcl) (cw_L_law_L_remove_138 C) (As := [.ref (D 0 0), .int 0, .int i12]) rfl hl (rest := []) rfl (Nat.le_of_ble_eq_true rfl) (st2 := [.int r3108]) rfl dL_law_463 ⟨by have := hfit.1; show _ ≤ 600086; omega, by have := hfit.2; show _ ≤ 7301442; omega⟩ (w4 := fun R3111 => wR g a na f ++ wB g D R3111 s3109 ts bs ps s3110 ns) (fun _ => List.Perm.refl _) (fun R3111 H locs X => ?_)
        clear hcl
        refine lv_bipush (v := (-33)) hx hb dL_law_466 (by decide) ?_
        refine lv_icmp_eq (tgt := 473) hx hb dL_law_468 (by decide) (fun hc => ?_) (fun hc => ?_)
        · have hm := ifp hc hm
          cases sm hm
          refine W.widen (k := cells + 15) (n := slots + 401) (by omega) (by omega) ?_
          exact K _ _ _ R3111 X (lv_sub hl [0, 1, 2, 3, 4, 5, 6, 9] rfl)
        · have hm := ifn hc hm
          cases hm
noncomputable def sL_law_332 (i3 : Int32) (i4 : Int32) (i6 : Int32) (i7 : Int32) (i8 : Int32) (i9 : Int32) (i10 : Int32) (i11 : Int32) (i12 : Int32) (na : Nat) (u : ShS) (ps : PS) (hs : HS) (f : (Nat → Int32)) : Option (Int32 × Int32 × ShS × PS × HS × (Nat → Int32)) := if 6 ≤ i8 then (sL_law_441 i3 i4 i6 i7 i8 i12 na u ps hs f) else (if i3 ≤ i12 then (sL_law_441 i3 i4 i6 i7 i8 i12 na u ps hs f) else (gd (inb (3 * i12) na) (gd (inb ((3 * i12) + 1) na) (lt ((100 * (f (3 * i12).toNatClampNeg)) + (f ((3 * i12) + 1).toNatClampNeg)) fun x4101 => (fL_put i12 i9 i10 i11 na f).bind fun u4102 => (fL_change 0 i12 i9 i10 i11 u hs).bind fun (r4103, s4104, s4105) => if r4103 = x4101 then ((fL_change 0 i3 i9 i10 i11 s4104 s4105).bind fun (r4107, s4108, s4109) => if r4107 = (-31) then ((fL_change 0 0 i9 i10 21 s4108 s4109).bind fun (r4111, s4112, s4113) => if r4111 = (-32) then (some (i3, (1 <<< (i3 &&& 31)) - 1, s4112, ps, s4113, u4102)) else none) else none) else none))))
set_option maxRecDepth 100000 in
set_option maxHeartbeats 8000000 in
theorem gL_law_332 {p : Program} {l : Launch} {e : Env} {s : State} {m : MethodId} {args : Array Value} {below : List Frame} {meth : Method} {c : Code} {g : kG} {A : Nat → Prop} {Q : State → Prop} {b : Nat} (hl9 : l.stackTraces = false) (D : Nat → Nat → Nat) (a : Nat → Nat) (C : CT g p s m args meth c RL cL_law 16 (some .boolean) wsL_law A) (na : Nat) (i3 : Int32) (i4 : Int32) (i5 : Int32) (i6 : Int32) (i7 : Int32) (i8 : Int32) (i9 : Int32) (i10 : Int32) (i11 : Int32) (i12 : Int32) (u : ShS) (ts : TS) (bs : SS) (ps : PS) (hs : HS) (ns : NS) (f : (Nat → Int32)) (z1 : Int32) (z2 : Int32) (z3 : ShS) (z4 : PS) (z5 : HS) (z6 : (Nat → Int32)) {cells slots : Nat} (hfit : cells + 80 ≤ 600086 ∧ slots + 2000 ≤ 7301442) (kk : ∀ (H : Heap) (locs : List Loc) (ls : Array Slot) (R : kAd), ST g A s H locs (wR g a na z6 ++ wB g D R z3 ts bs z4 z5 ns) → lv_has ls 16 [(0, .ref b), (1, .ref (D 0 0)), (2, .ref (a 0)), (3, .int z1), (4, .int z2), (5, .int i5), (6, .int i6)] → W p l e room_1 s m args below meth c H locs (cells + 80) (slots + 2000) Q (F0 m 928 ls [])) (hm : sL_law_332 i3 i4 i6 i7 i8 i9 i10 i11 i12 na u ps hs f = some (z1, z2, z3, z4, z5, z6)) : ∀ (H : Heap) (locs : List Loc) (ls : Array Slot) (R : kAd), ST g A s H locs (wR g a na f ++ wB g D R u ts bs ps hs ns) → lv_has ls 16 [(0, .ref b), (1, .ref (D 0 0)), (2, .ref (a 0)), (3, .int i3), (4, .int i4), (5, .int i5), (6, .int i6), (7, .int i7), (8, .int i8), (9, .int i9), (10, .int i10), (11, .int i11), (12, .int i12)] → W p l e room_1 s m args below meth c H locs cells slots Q (F0 m 332 ls []) := by
  have hx := C.1
  have hb := C.2.1
  intro H locs ls R X hl
  rw [sL_law_332] at hm
  refine lv_iload hx hb dL_law_332 (lv_at hl 8 rfl) ?_
  refine lv_bipush (v := 6) hx hb dL_law_334 (by decide) ?_
  refine lv_icmp_ge (tgt := 441) hx hb dL_law_336 (by decide) (fun hc => ?_) (fun hc => ?_)
  · have hm := ifp hc hm
    refine W.widen (k := cells) (n := slots) (by omega) (by omega) ?_
    exact gL_law_441 hl9 D a C na i3 i4 i5 i6 i7 i8 i12 u ts bs ps hs ns f z1 z2 z3 z4 z5 z6 hfit kk hm _ _ _ R X (lv_sub hl [0, 1, 2, 3, 4, 5, 6, 7, 8, 12] rfl)
  · have hm := ifn hc hm
    refine lv_iload hx hb dL_law_339 (lv_at hl 12 rfl) ?_
    refine lv_iload_n hx hb dL_law_341 rfl (lv_at hl 3 rfl) ?_
    refine lv_icmp_ge (tgt := 441) hx hb dL_law_342 (by decide) (fun hc => ?_) (fun hc => ?_)
    · have hm := ifp hc hm
      refine W.widen (k := cells) (n := slots) (by omega) (by omega) ?_
      exact gL_law_441 hl9 D a C na i3 i4 i5 i6 i7 i8 i12 u ts bs ps hs ns f z1 z2 z3 z4 z5 z6 hfit kk hm _ _ _ R X (lv_sub hl [0, 1, 2, 3, 4, 5, 6, 7, 8, 12] rfl)
    · have hm := ifn hc hm
      refine lv_bipush (v := 100) hx hb dL_law_345 (by decide) ?_
      refine lv_aload_n hx hb dL_law_347 rfl (lv_at hl 2 rfl) ?_
      refine lv_iconst (v := 3) hx hb dL_law_348 (by decide) ?_
      refine lv_iload hx hb dL_law_349 (lv_at hl 12 rfl) ?_
      refine lv_imul hx hb dL_law_351 ?_
      obtain ⟨hgi, hm⟩ := gd_t hm
      refine kiald C X 0 rfl hgi dL_law_352 ?_
      refine lv_imul hx hb dL_law_353 ?_
      refine lv_aload_n hx hb dL_law_354 rfl (lv_at hl 2 rfl) ?_
      refine lv_iconst (v := 3) hx hb dL_law_355 (by decide) ?_
      refine lv_iload hx hb dL_law_356 (lv_at hl 12 rfl) ?_
      refine lv_imul hx hb dL_law_358 ?_
      refine lv_iconst (v := 1) hx hb dL_law_359 (by decide) ?_
      refine lv_iadd hx hb dL_law_360 ?_
      obtain ⟨hgi, hm⟩ := gd_t hm
      refine kiald C X 0 rfl hgi dL_law_361 ?_
      refine lv_iadd hx hb dL_law_362 ?_
      refine lv_topi (fun x4101 ex => ?_)
      have hm := lt_t ex hm
      clear ex
      refine lv_istore (lv' := [(13, .int x4101), (0, .ref b), (1, .ref (D 0 0)), (2, .ref (a 0)), (3, .int i3), (4, .int i4), (5, .int i5), (6, .int i6), (7, .int i7), (8, .int i8), (9, .int i9), (10, .int i10), (11, .int i11), (12, .int i12)]) hx hb dL_law_363 hl (by decide) rfl (fun ls hl => ?_)
      refine lv_aload_n hx hb dL_law_365 rfl (lv_at hl 3 rfl) ?_
      refine lv_iload hx hb dL_law_366 (lv_at hl 13 rfl) ?_
      refine lv_iload hx hb dL_law_368 (lv_at hl 10 rfl) ?_
      refine lv_iload hx hb dL_law_370 (lv_at hl 11 rfl) ?_
      refine lv_iload hx hb dL_law_372 (lv_at hl 12 rfl) ?_
      obtain ⟨u4102, hcl, hm⟩ := bnd hm
      refine kSp _ (List.Perm.refl _) C X (kL_put l g a i12 i9 i10 i11 na f u4102 hcl) (cw_L_law_L_put_122 C) (As := [.ref (a 0), .int i12, .int i9, .int i10, .int i11]) rfl hl (rest := []) rfl (Nat.le_of_ble_eq_true rfl) (st2 := []) rfl dL_law_374 ⟨by have := hfit.1; show _ ≤ 600086; omega, by have := hfit.2; show _ ≤ 7301442; omega⟩ (w3 := wR g a na u4102 ++ wB g D R u ts bs ps hs ns) List.perm_append_comm (fun H locs X => ?_)
      clear hcl
      refine lv_iconst (v := 1) hx hb dL_law_377 (by decide) ?_
      refine lv_iload_n hx hb dL_law_378 rfl (lv_at hl 4 rfl) ?_
      refine lv_ishl hx hb dL_law_379 ?_
      refine lv_iconst (v := 1) hx hb dL_law_380 (by decide) ?_
      refine lv_isub hx hb dL_law_381 ?_
      refine lv_istore (lv' := [(4, .int ((1 <<< (i3 &&& 31)) - 1)), (13, .int x4101), (0, .ref b), (1, .ref (D 0 0)), (2, .ref (a 0)), (3, .int i3), (5, .int i5), (6, .int i6), (7, .int i7), (8, .int i8), (9, .int i9), (10, .int i10), (11, .int i11), (12, .int i12)]) hx hb dL_law_382 hl (by decide) rfl (fun ls hl => ?_)
      refine lv_aload_n hx hb dL_law_384 rfl (lv_at hl 3 rfl) ?_
      refine lv_iconst (v := 0) hx hb dL_law_385 (by decide) ?_
      refine lv_iload hx hb dL_law_386 (lv_at hl 13 rfl) ?_
      refine lv_iload hx hb dL_law_388 (lv_at hl 10 rfl) ?_
      refine lv_iload hx hb dL_law_390 (lv_at hl 11 rfl) ?_
      refine lv_iload hx hb dL_law_392 (lv_at hl 12 rfl) ?_
      obtain ⟨⟨r4103, s4104, s4105⟩, hcl, hm⟩ := bnd hm
      refine keSW (wR g a na u4102) List.perm_append_comm C X (kL_change l hl9 g D R 0 i12 i9 i10 i11 u ts bs ps hs ns r4103 s4104 s4105 hcl) (cw_L_law_L_change_136 C) (As := [.ref (D 0 0), .int 0, .int i12, .int i9, .int i10, .int i11]) rfl hl (rest := []) rfl (Nat.le_of_ble_eq_true rfl) (st2 := [.int r4103]) rfl dL_law_394 ⟨by have := hfit.1; show _ ≤ 600086; omega, by have := hfit.2; show _ ≤ 7301442; omega⟩ (w4 := fun R4106 => wR g a na u4102 ++ wB g D R4106 s4104 ts bs ps s4105 ns) (fun _ => List.Perm.refl _) (fun R4106 H locs X => ?_)
      clear hcl
      refine lv_iload hx hb dL_law_397 (lv_at hl 1 rfl) ?_
      refine lv_icmp_ne (tgt := 436) hx hb dL_law_399 (by decide) (fun hc => ?_) (fun hc => ?_)
      · have hm := ifn hc hm
        cases hm
      · have hm := ifp hc hm
        refine lv_aload_n hx hb dL_law_402 rfl (lv_at hl 3 rfl) ?_
        refine lv_iconst (v := 0) hx hb dL_law_403 (by decide) ?_
        refine lv_iload_n hx hb dL_law_404 rfl (lv_at hl 5 rfl) ?_
        refine lv_iload hx hb dL_law_405 (lv_at hl 10 rfl) ?_
        refine lv_iload hx hb dL_law_407 (lv_at hl 11 rfl) ?_
        refine lv_iload hx hb dL_law_409 (lv_at hl 12 rfl) ?_
        obtain ⟨⟨r4107, s4108, s4109⟩, hcl, hm⟩ := bnd hm
        refine keSW (wR g a na u4102) List.perm_append_comm C X (kL_change l hl9 g D R4106 0 i3 i9 i10 i11 s4104 ts bs ps s4105 ns r4107 s4108 s4109 hcl) (cw_L_law_L_change_136 C) (As := [.ref (D 0 0), .int 0, .int i3, .int i9, .int i10, .int i11]) rfl hl (rest := []) rfl (Nat.le_of_ble_eq_true rfl) (st2 := [.int r4107]) rfl dL_law_411 ⟨by have := hfit.1; show _ ≤ 600086; omega, by have := hfit.2; show _ ≤ 7301442; omega⟩ (w4 := fun R4110 => wR g a na u4102 ++ wB g D R4110 s4108 ts bs ps s4109 ns) (fun _ => List.Perm.refl _) (fun R4110 H locs X => ?_)
        clear hcl
        refine lv_bipush (v := (-31)) hx hb dL_law_414 (by decide) ?_
        refine lv_icmp_ne (tgt := 436) hx hb dL_law_416 (by decide) (fun hc => ?_) (fun hc => ?_)
        · have hm := ifn hc hm
          cases hm
        · have hm := ifp hc hm
          refine lv_aload_n hx hb dL_law_419 rfl (lv_at hl 3 rfl) ?_
          refine lv_iconst (v := 0) hx hb dL_law_420 (by decide) ?_
          refine lv_iconst (v := 0) hx hb dL_law_421 (by decide) ?_
          refine lv_iload hx hb dL_law_422 (lv_at hl 10 rfl) ?_
          refine lv_iload hx hb dL_law_424 (lv_at hl 11 rfl) ?_
          refine lv_bipush (v := 21) hx hb dL_law_426 (by decide) ?_
          obtain ⟨⟨r4111, s4112, s4113⟩, hcl, hm⟩ := bnd hm
          refine keSW (wR g a na u4102) List.perm_append_comm C X (kL_change l hl9 g D R4110 0 0 i9 i10 21 s4108 ts bs ps s4109 ns r4111 s4112 s4113 hcl) (cw_L_law_L_change_136 C) (As := [.ref (D 0 0), .int 0, .int 0, .int i9, .int i10, .int 21]) rfl hl (rest := []) rfl (Nat.le_of_ble_eq_true rfl) (st2 := [.int r4111]) rfl dL_law_428 ⟨by have := hfit.1; show _ ≤ 600086; omega, by have := hfit.2; show _ ≤ 7301442; omega⟩ (w4 := fun R4114 => wR g a na u4102 ++ wB g D R4114 s4112 ts bs ps s4113 ns) (fun _ => List.Perm.refl _) (fun R4114 H locs X => ?_)
          clear hcl
          refine lv_bipush (v := (-32)) hx hb dL_law_431 (by decide) ?_
          refine lv_icmp_eq (tgt := 438) hx hb dL_law_433 (by decide) (fun hc => ?_) (fun hc => ?_)
          · have hm := ifp hc hm
            refine lv_goto (tgt := 928) hx hb dL_law_438 (by decide) ?_
            have hz := sm hm
            clear hm
            obtain ⟨e1, e2, e3, e4, e5, e6⟩ : i3 = z1 ∧ (1 <<< (i3 &&& 31)) - 1 = z2 ∧ s4112 = z3 ∧ ps = z4 ∧ s4113 = z5 ∧ u4102 = z6 := ⟨congrArg (fun q => q.1) hz, congrArg (fun q => q.2.1) hz, congrArg (fun q => q.2.2.1) hz, congrArg (fun q => q.2.2.2.1) hz, congrArg (fun q => q.2.2.2.2.1) hz, congrArg (fun q => q.2.2.2.2.2) hz⟩
            clear hz
            subst e1
            subst e2
            subst e3
            subst e4
            subst e5
            subst e6
            refine W.widen (k := cells + 80) (n := slots + 2000) (by omega) (by omega) ?_
            exact kk _ _ _ R4114 X (lv_sub hl [2, 3, 4, 5, 0, 6, 7] rfl)
          · have hm := ifn hc hm
            cases hm
noncomputable def bL_law_212 (c5107 : Int32) (na : Nat) : Int32 × (Nat → Int32) → Option ((Int32 × (Nat → Int32)) ⊕ ((Nat → Int32)))
  | (x5108, u5115) => if x5108 ≤ c5107 then (some (.inr u5115)) else (gd (inb ((3 * x5108) - 3) na) (gd (inb ((3 * x5108) - 2) na) (gd (inb ((3 * x5108) - 1) na) ((fL_put x5108 (u5115 ((3 * x5108) - 3).toNatClampNeg) (u5115 ((3 * x5108) - 2).toNatClampNeg) (u5115 ((3 * x5108) - 1).toNatClampNeg) na u5115).bind fun u5117 => some (.inl (x5108 + (-1), u5117))))))
noncomputable def lL_law_212 (c5107 : Int32) (na : Nat) (x5108 : Int32) (u5115 : (Nat → Int32)) : Option ((Nat → Int32)) := lp (bL_law_212 c5107 na) (x5108, u5115)
theorem lL_law_212_eq (c5107 : Int32) (na : Nat) (x5108 : Int32) (u5115 : (Nat → Int32)) : lL_law_212 c5107 na x5108 u5115 = (if x5108 ≤ c5107 then (some (.inr u5115)) else (gd (inb ((3 * x5108) - 3) na) (gd (inb ((3 * x5108) - 2) na) (gd (inb ((3 * x5108) - 1) na) ((fL_put x5108 (u5115 ((3 * x5108) - 3).toNatClampNeg) (u5115 ((3 * x5108) - 2).toNatClampNeg) (u5115 ((3 * x5108) - 1).toNatClampNeg) na u5115).bind fun u5117 => some (.inl (x5108 + (-1), u5117))))))).bind fun r => Sum.elim (fun z => lL_law_212 c5107 na z.1 z.2) (fun r => some r) r := lp_eq (bL_law_212 c5107 na) (x5108, u5115)
set_option maxRecDepth 100000 in
set_option maxHeartbeats 4000000 in
theorem tL_law_212 {p : Program} {l : Launch} {e : Env} {s : State} {m : MethodId} {args : Array Value} {below : List Frame} {meth : Method} {c : Code} {g : kG} {A : Nat → Prop} {Q : State → Prop} {b : Nat} (D : Nat → Nat → Nat) (R : kAd) (a : Nat → Nat) (C : CT g p s m args meth c RL cL_law 16 (some .boolean) wsL_law A) {cells slots : Nat} (hfit : cells ≤ 600086 ∧ slots ≤ 7301442) (c5101 : Int32) (c5102 : Int32) (c5103 : Int32) (c5104 : Int32) (c5105 : Int32) (c5106 : Int32) (c5107 : Int32) (w5109 : ShS) (w5110 : TS) (w5111 : SS) (w5112 : PS) (w5113 : HS) (w5114 : NS) (na : Nat) (u5116 : (Nat → Int32)) (kk : ∀ (H : Heap) (locs : List Loc) (ls : Array Slot), ST g A s H locs (wR g a na u5116 ++ wB g D R w5109 w5110 w5111 w5112 w5113 w5114) → lv_has ls 16 [(0, .ref b), (1, .ref (D 0 0)), (2, .ref (a 0)), (3, .int c5101), (5, .int c5102), (6, .int c5103), (9, .int c5104), (10, .int c5105), (11, .int c5106), (12, .int c5107)] → W p l e room_1 s m args below meth c H locs cells slots Q (F0 m 255 ls [])) : ∀ (n : Nat) (x5108 : Int32) (u5115 : (Nat → Int32)), whl (bL_law_212 c5107 na) n (x5108, u5115) = some u5116 → ∀ (H : Heap) (locs : List Loc) (ls : Array Slot), ST g A s H locs (wR g a na u5115 ++ wB g D R w5109 w5110 w5111 w5112 w5113 w5114) → lv_has ls 16 [(0, .ref b), (1, .ref (D 0 0)), (2, .ref (a 0)), (3, .int c5101), (5, .int c5102), (6, .int c5103), (9, .int c5104), (10, .int c5105), (11, .int c5106), (12, .int c5107), (13, .int x5108)] → W p l e room_1 s m args below meth c H locs cells slots Q (F0 m 212 ls []) := by
  have hx := C.1
  have hb := C.2.1
  intro n
  induction n with
  | zero =>
    intro x5108 u5115 hm
    cases hm
  | succ n ih =>
    intro x5108 u5115 hm H locs ls X hl
    rw [whl] at hm
    obtain ⟨q, hq, hm2⟩ := bnd hm
    clear hm
    have hm := hq
    clear hq
    rw [bL_law_212] at hm
    refine lv_iload hx hb dL_law_212 (lv_at hl 10 rfl) ?_
    refine lv_iload hx hb dL_law_214 (lv_at hl 9 rfl) ?_
    refine lv_icmp_le (tgt := 255) hx hb dL_law_216 (by decide) (fun hc => ?_) (fun hc => ?_)
    · have hm := ifp hc hm
      cases sm hm
      cases sm hm2
      exact kk _ _ _ X (lv_sub hl [0, 1, 2, 3, 4, 5, 6, 7, 8, 9] rfl)
    · have hm := ifn hc hm
      refine lv_aload_n hx hb dL_law_219 rfl (lv_at hl 2 rfl) ?_
      refine lv_iload hx hb dL_law_220 (lv_at hl 10 rfl) ?_
      refine lv_aload_n hx hb dL_law_222 rfl (lv_at hl 2 rfl) ?_
      refine lv_iconst (v := 3) hx hb dL_law_223 (by decide) ?_
      refine lv_iload hx hb dL_law_224 (lv_at hl 10 rfl) ?_
      refine lv_imul hx hb dL_law_226 ?_
      refine lv_iconst (v := 3) hx hb dL_law_227 (by decide) ?_
      refine lv_isub hx hb dL_law_228 ?_
      obtain ⟨hgi, hm⟩ := gd_t hm
      refine kiald C X 0 rfl hgi dL_law_229 ?_
      refine lv_aload_n hx hb dL_law_230 rfl (lv_at hl 2 rfl) ?_
      refine lv_iconst (v := 3) hx hb dL_law_231 (by decide) ?_
      refine lv_iload hx hb dL_law_232 (lv_at hl 10 rfl) ?_
      refine lv_imul hx hb dL_law_234 ?_
      refine lv_iconst (v := 2) hx hb dL_law_235 (by decide) ?_
      refine lv_isub hx hb dL_law_236 ?_
      obtain ⟨hgi, hm⟩ := gd_t hm
      refine kiald C X 0 rfl hgi dL_law_237 ?_
      refine lv_aload_n hx hb dL_law_238 rfl (lv_at hl 2 rfl) ?_
      refine lv_iconst (v := 3) hx hb dL_law_239 (by decide) ?_
      refine lv_iload hx hb dL_law_240 (lv_at hl 10 rfl) ?_
      refine lv_imul hx hb dL_law_242 ?_
      refine lv_iconst (v := 1) hx hb dL_law_243 (by decide) ?_
      refine lv_isub hx hb dL_law_244 ?_
      obtain ⟨hgi, hm⟩ := gd_t hm
      refine kiald C X 0 rfl hgi dL_law_245 ?_
      obtain ⟨u5117, hcl, hm⟩ := bnd hm
      refine kSp _ (List.Perm.refl _) C X (kL_put l g a x5108 (u5115 ((3 * x5108) - 3).toNatClampNeg) (u5115 ((3 * x5108) - 2).toNatClampNeg) (u5115 ((3 * x5108) - 1).toNatClampNeg) na u5115 u5117 hcl) (cw_L_law_L_put_122 C) (As := [.ref (a 0), .int x5108, .int (u5115 ((3 * x5108) - 3).toNatClampNeg), .int (u5115 ((3 * x5108) - 2).toNatClampNeg), .int (u5115 ((3 * x5108) - 1).toNatClampNeg)]) rfl hl (rest := []) rfl (Nat.le_of_ble_eq_true rfl) (st2 := []) rfl dL_law_246 ⟨by have := hfit.1; show _ ≤ 600086; omega, by have := hfit.2; show _ ≤ 7301442; omega⟩ (w3 := wR g a na u5117 ++ wB g D R w5109 w5110 w5111 w5112 w5113 w5114) List.perm_append_comm (fun H locs X => ?_)
      clear hcl
      refine lv_iinc (v := x5108 + (-1)) (lv' := [(13, .int (x5108 + (-1))), (0, .ref b), (1, .ref (D 0 0)), (2, .ref (a 0)), (3, .int c5101), (5, .int c5102), (6, .int c5103), (9, .int c5104), (10, .int c5105), (11, .int c5106), (12, .int c5107)]) hx hb dL_law_249 hl (k := 10) rfl rfl (by decide) rfl (fun ls hl => ?_)
      refine lv_goto (tgt := 212) hx hb dL_law_252 (by decide) ?_
      cases sm hm
      exact ih _ _ hm2 _ _ _ X (lv_sub hl [1, 2, 3, 4, 5, 6, 7, 8, 9, 10, 0] rfl)
noncomputable def sL_law_197 (i3 : Int32) (i4 : Int32) (i6 : Int32) (i7 : Int32) (i8 : Int32) (i9 : Int32) (i10 : Int32) (i11 : Int32) (i12 : Int32) (na : Nat) (u : ShS) (ps : PS) (hs : HS) (f : (Nat → Int32)) : Option (Int32 × Int32 × ShS × PS × HS × (Nat → Int32)) := if 4 ≤ i8 then (sL_law_332 i3 i4 i6 i7 i8 i9 i10 i11 i12 na u ps hs f) else (if 10 ≤ i3 then (sL_law_332 i3 i4 i6 i7 i8 i9 i10 i11 i12 na u ps hs f) else ((lL_law_212 i12 na i3 f).bind fun u5118 => (fL_put i12 i9 i10 i11 na u5118).bind fun u5119 => (fL_insert 0 i12 i9 i10 i11 u hs).bind fun (r5120, s5121, s5122) => if r5120 = (i3 + 1) then ((fL_insert 0 ((i3 + 1) + 1) i9 i10 i11 s5121 s5122).bind fun (r5124, s5125, s5126) => if r5124 = (-31) then ((fL_insert 0 0 i9 100 i11 s5125 s5126).bind fun (r5128, s5129, s5130) => if r5128 = (-32) then (some (i3 + 1, (1 <<< ((i3 + 1) &&& 31)) - 1, s5129, ps, s5130, u5119)) else none) else none) else none))
set_option maxRecDepth 100000 in
set_option maxHeartbeats 8000000 in
theorem gL_law_197 {p : Program} {l : Launch} {e : Env} {s : State} {m : MethodId} {args : Array Value} {below : List Frame} {meth : Method} {c : Code} {g : kG} {A : Nat → Prop} {Q : State → Prop} {b : Nat} (hl9 : l.stackTraces = false) (D : Nat → Nat → Nat) (a : Nat → Nat) (C : CT g p s m args meth c RL cL_law 16 (some .boolean) wsL_law A) (na : Nat) (i3 : Int32) (i4 : Int32) (i5 : Int32) (i6 : Int32) (i7 : Int32) (i8 : Int32) (i9 : Int32) (i10 : Int32) (i11 : Int32) (i12 : Int32) (u : ShS) (ts : TS) (bs : SS) (ps : PS) (hs : HS) (ns : NS) (f : (Nat → Int32)) (z1 : Int32) (z2 : Int32) (z3 : ShS) (z4 : PS) (z5 : HS) (z6 : (Nat → Int32)) {cells slots : Nat} (hfit : cells + 80 ≤ 600086 ∧ slots + 2000 ≤ 7301442) (kk : ∀ (H : Heap) (locs : List Loc) (ls : Array Slot) (R : kAd), ST g A s H locs (wR g a na z6 ++ wB g D R z3 ts bs z4 z5 ns) → lv_has ls 16 [(0, .ref b), (1, .ref (D 0 0)), (2, .ref (a 0)), (3, .int z1), (4, .int z2), (5, .int i5), (6, .int i6)] → W p l e room_1 s m args below meth c H locs (cells + 80) (slots + 2000) Q (F0 m 928 ls [])) (hm : sL_law_197 i3 i4 i6 i7 i8 i9 i10 i11 i12 na u ps hs f = some (z1, z2, z3, z4, z5, z6)) : ∀ (H : Heap) (locs : List Loc) (ls : Array Slot) (R : kAd), ST g A s H locs (wR g a na f ++ wB g D R u ts bs ps hs ns) → lv_has ls 16 [(0, .ref b), (1, .ref (D 0 0)), (2, .ref (a 0)), (3, .int i3), (4, .int i4), (5, .int i5), (6, .int i6), (7, .int i7), (8, .int i8), (9, .int i9), (10, .int i10), (11, .int i11), (12, .int i12)] → W p l e room_1 s m args below meth c H locs cells slots Q (F0 m 197 ls []) := by
  have hx := C.1
  have hb := C.2.1
  intro H locs ls R X hl
  rw [sL_law_197] at hm
  refine lv_iload hx hb dL_law_197 (lv_at hl 8 rfl) ?_
  refine lv_iconst (v := 4) hx hb dL_law_199 (by decide) ?_
  refine lv_icmp_ge (tgt := 332) hx hb dL_law_200 (by decide) (fun hc => ?_) (fun hc => ?_)
  · have hm := ifp hc hm
    refine W.widen (k := cells) (n := slots) (by omega) (by omega) ?_
    exact gL_law_332 hl9 D a C na i3 i4 i5 i6 i7 i8 i9 i10 i11 i12 u ts bs ps hs ns f z1 z2 z3 z4 z5 z6 hfit kk hm _ _ _ R X (lv_sub hl [0, 1, 2, 3, 4, 5, 6, 7, 8, 9, 10, 11, 12] rfl)
  · have hm := ifn hc hm
    refine lv_iload_n hx hb dL_law_203 rfl (lv_at hl 3 rfl) ?_
    refine lv_bipush (v := 10) hx hb dL_law_204 (by decide) ?_
    refine lv_icmp_ge (tgt := 332) hx hb dL_law_206 (by decide) (fun hc => ?_) (fun hc => ?_)
    · have hm := ifp hc hm
      refine W.widen (k := cells) (n := slots) (by omega) (by omega) ?_
      exact gL_law_332 hl9 D a C na i3 i4 i5 i6 i7 i8 i9 i10 i11 i12 u ts bs ps hs ns f z1 z2 z3 z4 z5 z6 hfit kk hm _ _ _ R X (lv_sub hl [0, 1, 2, 3, 4, 5, 6, 7, 8, 9, 10, 11, 12] rfl)
    · have hm := ifn hc hm
      refine lv_iload_n hx hb dL_law_209 rfl (lv_at hl 3 rfl) ?_
      refine lv_istore (lv' := [(13, .int i3), (0, .ref b), (1, .ref (D 0 0)), (2, .ref (a 0)), (3, .int i3), (4, .int i4), (5, .int i5), (6, .int i6), (7, .int i7), (8, .int i8), (9, .int i9), (10, .int i10), (11, .int i11), (12, .int i12)]) hx hb dL_law_210 hl (by decide) rfl (fun ls hl => ?_)
      obtain ⟨u5118, hL, hm⟩ := bnd hm
      obtain ⟨nn, hn⟩ := lp_run hL
      refine tL_law_212 D R a C ⟨by have := hfit.1; show _ ≤ 600086; omega, by have := hfit.2; show _ ≤ 7301442; omega⟩ i3 i5 i6 i9 i10 i11 i12 u ts bs ps hs ns na u5118 (fun H locs ls X hl => ?_) nn _ _ hn _ _ _ X (lv_sub hl [1, 2, 3, 4, 6, 7, 10, 11, 12, 13, 0] rfl)
      clear hL hn
      refine lv_aload_n hx hb dL_law_255 rfl (lv_at hl 2 rfl) ?_
      refine lv_iload hx hb dL_law_256 (lv_at hl 9 rfl) ?_
      refine lv_iload hx hb dL_law_258 (lv_at hl 6 rfl) ?_
      refine lv_iload hx hb dL_law_260 (lv_at hl 7 rfl) ?_
      refine lv_iload hx hb dL_law_262 (lv_at hl 8 rfl) ?_
      obtain ⟨u5119, hcl, hm⟩ := bnd hm
      refine kSp _ (List.Perm.refl _) C X (kL_put l g a i12 i9 i10 i11 na u5118 u5119 hcl) (cw_L_law_L_put_122 C) (As := [.ref (a 0), .int i12, .int i9, .int i10, .int i11]) rfl hl (rest := []) rfl (Nat.le_of_ble_eq_true rfl) (st2 := []) rfl dL_law_264 ⟨by have := hfit.1; show _ ≤ 600086; omega, by have := hfit.2; show _ ≤ 7301442; omega⟩ (w3 := wR g a na u5119 ++ wB g D R u ts bs ps hs ns) List.perm_append_comm (fun H locs X => ?_)
      clear hcl
      refine lv_iinc (v := i3 + 1) (lv' := [(3, .int (i3 + 1)), (0, .ref b), (1, .ref (D 0 0)), (2, .ref (a 0)), (5, .int i5), (6, .int i6), (9, .int i9), (10, .int i10), (11, .int i11), (12, .int i12)]) hx hb dL_law_267 hl (k := 3) rfl rfl (by decide) rfl (fun ls hl => ?_)
      refine lv_iconst (v := 1) hx hb dL_law_270 (by decide) ?_
      refine lv_iload_n hx hb dL_law_271 rfl (lv_at hl 0 rfl) ?_
      refine lv_ishl hx hb dL_law_272 ?_
      refine lv_iconst (v := 1) hx hb dL_law_273 (by decide) ?_
      refine lv_isub hx hb dL_law_274 ?_
      refine lv_istore (lv' := [(4, .int ((1 <<< ((i3 + 1) &&& 31)) - 1)), (3, .int (i3 + 1)), (0, .ref b), (1, .ref (D 0 0)), (2, .ref (a 0)), (5, .int i5), (6, .int i6), (9, .int i9), (10, .int i10), (11, .int i11), (12, .int i12)]) hx hb dL_law_275 hl (by decide) rfl (fun ls hl => ?_)
      refine lv_aload_n hx hb dL_law_277 rfl (lv_at hl 3 rfl) ?_
      refine lv_iconst (v := 0) hx hb dL_law_278 (by decide) ?_
      refine lv_iload hx hb dL_law_279 (lv_at hl 10 rfl) ?_
      refine lv_iload hx hb dL_law_281 (lv_at hl 7 rfl) ?_
      refine lv_iload hx hb dL_law_283 (lv_at hl 8 rfl) ?_
      refine lv_iload hx hb dL_law_285 (lv_at hl 9 rfl) ?_
      obtain ⟨⟨r5120, s5121, s5122⟩, hcl, hm⟩ := bnd hm
      refine keSW (wR g a na u5119) List.perm_append_comm C X (kL_insert l hl9 g D R 0 i12 i9 i10 i11 u ts bs ps hs ns r5120 s5121 s5122 hcl) (cw_L_law_L_insert_133 C) (As := [.ref (D 0 0), .int 0, .int i12, .int i9, .int i10, .int i11]) rfl hl (rest := []) rfl (Nat.le_of_ble_eq_true rfl) (st2 := [.int r5120]) rfl dL_law_287 ⟨by have := hfit.1; show _ ≤ 600086; omega, by have := hfit.2; show _ ≤ 7301442; omega⟩ (w4 := fun R5123 => wR g a na u5119 ++ wB g D R5123 s5121 ts bs ps s5122 ns) (fun _ => List.Perm.refl _) (fun R5123 H locs X => ?_)
      clear hcl
      refine lv_iload_n hx hb dL_law_290 rfl (lv_at hl 1 rfl) ?_
      refine lv_icmp_ne (tgt := 330) hx hb dL_law_291 (by decide) (fun hc => ?_) (fun hc => ?_)
      · have hm := ifn hc hm
        cases hm
      · have hm := ifp hc hm
        refine lv_aload_n hx hb dL_law_294 rfl (lv_at hl 3 rfl) ?_
        refine lv_iconst (v := 0) hx hb dL_law_295 (by decide) ?_
        refine lv_iload_n hx hb dL_law_296 rfl (lv_at hl 1 rfl) ?_
        refine lv_iconst (v := 1) hx hb dL_law_297 (by decide) ?_
        refine lv_iadd hx hb dL_law_298 ?_
        refine lv_iload hx hb dL_law_299 (lv_at hl 7 rfl) ?_
        refine lv_iload hx hb dL_law_301 (lv_at hl 8 rfl) ?_
        refine lv_iload hx hb dL_law_303 (lv_at hl 9 rfl) ?_
        obtain ⟨⟨r5124, s5125, s5126⟩, hcl, hm⟩ := bnd hm
        refine keSW (wR g a na u5119) List.perm_append_comm C X (kL_insert l hl9 g D R5123 0 ((i3 + 1) + 1) i9 i10 i11 s5121 ts bs ps s5122 ns r5124 s5125 s5126 hcl) (cw_L_law_L_insert_133 C) (As := [.ref (D 0 0), .int 0, .int ((i3 + 1) + 1), .int i9, .int i10, .int i11]) rfl hl (rest := []) rfl (Nat.le_of_ble_eq_true rfl) (st2 := [.int r5124]) rfl dL_law_305 ⟨by have := hfit.1; show _ ≤ 600086; omega, by have := hfit.2; show _ ≤ 7301442; omega⟩ (w4 := fun R5127 => wR g a na u5119 ++ wB g D R5127 s5125 ts bs ps s5126 ns) (fun _ => List.Perm.refl _) (fun R5127 H locs X => ?_)
        clear hcl
        refine lv_bipush (v := (-31)) hx hb dL_law_308 (by decide) ?_
        refine lv_icmp_ne (tgt := 330) hx hb dL_law_310 (by decide) (fun hc => ?_) (fun hc => ?_)
        · have hm := ifn hc hm
          cases hm
        · have hm := ifp hc hm
          refine lv_aload_n hx hb dL_law_313 rfl (lv_at hl 3 rfl) ?_
          refine lv_iconst (v := 0) hx hb dL_law_314 (by decide) ?_
          refine lv_iconst (v := 0) hx hb dL_law_315 (by decide) ?_
          refine lv_iload hx hb dL_law_316 (lv_at hl 7 rfl) ?_
          refine lv_bipush (v := 100) hx hb dL_law_318 (by decide) ?_
          refine lv_iload hx hb dL_law_320 (lv_at hl 9 rfl) ?_
          obtain ⟨⟨r5128, s5129, s5130⟩, hcl, hm⟩ := bnd hm
          refine keSW (wR g a na u5119) List.perm_append_comm C X (kL_insert l hl9 g D R5127 0 0 i9 100 i11 s5125 ts bs ps s5126 ns r5128 s5129 s5130 hcl) (cw_L_law_L_insert_133 C) (As := [.ref (D 0 0), .int 0, .int 0, .int i9, .int 100, .int i11]) rfl hl (rest := []) rfl (Nat.le_of_ble_eq_true rfl) (st2 := [.int r5128]) rfl dL_law_322 ⟨by have := hfit.1; show _ ≤ 600086; omega, by have := hfit.2; show _ ≤ 7301442; omega⟩ (w4 := fun R5131 => wR g a na u5119 ++ wB g D R5131 s5129 ts bs ps s5130 ns) (fun _ => List.Perm.refl _) (fun R5131 H locs X => ?_)
          clear hcl
          refine lv_bipush (v := (-32)) hx hb dL_law_325 (by decide) ?_
          refine lv_icmp_eq (tgt := 928) hx hb dL_law_327 (by decide) (fun hc => ?_) (fun hc => ?_)
          · have hm := ifp hc hm
            have hz := sm hm
            clear hm
            obtain ⟨e1, e2, e3, e4, e5, e6⟩ : i3 + 1 = z1 ∧ (1 <<< ((i3 + 1) &&& 31)) - 1 = z2 ∧ s5129 = z3 ∧ ps = z4 ∧ s5130 = z5 ∧ u5119 = z6 := ⟨congrArg (fun q => q.1) hz, congrArg (fun q => q.2.1) hz, congrArg (fun q => q.2.2.1) hz, congrArg (fun q => q.2.2.2.1) hz, congrArg (fun q => q.2.2.2.2.1) hz, congrArg (fun q => q.2.2.2.2.2) hz⟩
            clear hz
            subst e1
            subst e2
            subst e3
            subst e4
            subst e5
            subst e6
            refine W.widen (k := cells + 80) (n := slots + 2000) (by omega) (by omega) ?_
            exact kk _ _ _ R5131 X (lv_sub hl [2, 3, 4, 1, 0, 5, 6] rfl)
          · have hm := ifn hc hm
            cases hm
noncomputable def bL_law_69 (na : Nat) (L : Nat) (xs : Nat → Int32) : Int32 × Int32 × Int32 × ShS × PS × HS × (Nat → Int32) → Option ((Int32 × Int32 × Int32 × ShS × PS × HS × (Nat → Int32)) ⊕ (ShS × PS × HS × (Nat → Int32)))
  | (x11, x12, x13, u14, u17, u18, u20) => if 34 ≤ x13 then (some (.inr (u14, u17, u18, u20))) else ((fL_cell L xs (2 * x13)).bind fun r25 => (fL_cell L xs ((2 * x13) + 1)).bind fun r26 => ((if 6 ≤ x13 then ((fL_low r25 12).bind fun r30 => some r30) else (some 0)) : Option (Int32)).bind fun v28 => (fL_low r26 100).bind fun r31 => ((if ((r25 >>> (6 &&& 31)) &&& 1) = 0 then ((fL_low (r26 >>> (7 &&& 31)) 100).bind fun r37 => some r37) else ((fL_low (r26 >>> (7 &&& 31)) 7).bind fun r36 => some (((r31 / 2) + r36) - ((r31 / 2) + r36) / 100 * 100))) : Option (Int32)).bind fun v34 => (fL_low (r26 >>> (14 &&& 31)) 20).bind fun r38 => (fL_low (r25 >>> (8 &&& 31)) (x11 + 1)).bind fun r39 => (sL_law_197 x11 x12 r25 r26 v28 r31 v34 (1 + r38) r39 na u14 u17 u18 u20).bind fun (v40, v41, u42, u43, u44, u45) => (fL_isSo 0 v40 v41 na u42 u45).bind fun r47 => if r47 = 0 then none else (((if (x13 - x13 / 4 * 4) = 3 then ((fL_isAhead 0 v40 (r25 >>> (4 &&& 31)) na u42 u43 u45).bind fun (r52, s53) => if r52 = 0 then none else (some s53)) else (some u43)) : Option (PS)).bind fun u51 => some (.inl (v40, v41, x13 + 1, u42, u51, u44, u45))))
set_option maxRecDepth 100000 in
set_option maxHeartbeats 8000000 in
theorem tL_law_69 {p : Program} {l : Launch} {e : Env} {s : State} {m : MethodId} {args : Array Value} {below : List Frame} {meth : Method} {c : Code} {g : kG} {A : Nat → Prop} {Q : State → Prop} {b : Nat} (hl9 : l.stackTraces = false) (D : Nat → Nat → Nat) (a : Nat → Nat) (C : CT g p s m args meth c RL cL_law 16 (some .boolean) wsL_law A) (w15 : TS) (w16 : SS) (w19 : NS) (na : Nat) (L : Nat) (xs : Nat → Int32) (hX : va_X b L xs s s.heap) (hbl : b < s.heap.size) (hbA : ¬ A b) (u21 : ShS) (u22 : PS) (u23 : HS) (u24 : (Nat → Int32)) (kk : ∀ (H : Heap) (locs : List Loc) (ls : Array Slot) (R : kAd), ST g A s H locs (wR g a na u24 ++ wB g D R u21 w15 w16 u22 u23 w19) → lv_has ls 16 [(0, .ref b)] → W p l e room_1 s m args below meth c H locs 600086 7301442 Q (F0 m 970 ls [])) : ∀ (n : Nat) (x11 : Int32) (x12 : Int32) (x13 : Int32) (u14 : ShS) (u17 : PS) (u18 : HS) (u20 : (Nat → Int32)), whl (bL_law_69 na L xs) n (x11, x12, x13, u14, u17, u18, u20) = some (u21, u22, u23, u24) → ∀ (cells slots : Nat), cells + 120 * n ≤ 600086 ∧ slots + 2600 * n ≤ 7301442 → ∀ (H : Heap) (locs : List Loc) (ls : Array Slot) (R : kAd), ST g A s H locs (wR g a na u20 ++ wB g D R u14 w15 w16 u17 u18 w19) → lv_has ls 16 [(0, .ref b), (1, .ref (D 0 0)), (2, .ref (a 0)), (3, .int x11), (4, .int x12), (5, .int x13)] → W p l e room_1 s m args below meth c H locs cells slots Q (F0 m 69 ls []) := by
  have hx := C.1
  have hb := C.2.1
  intro n
  induction n with
  | zero =>
    intro x11 x12 x13 u14 u17 u18 u20 hm
    cases hm
  | succ n ih =>
    intro x11 x12 x13 u14 u17 u18 u20 hm cells slots hfit H locs ls R X hl
    rw [whl] at hm
    obtain ⟨q, hq, hm2⟩ := bnd hm
    clear hm
    have hm := hq
    clear hq
    rw [bL_law_69] at hm
    refine lv_iload hx hb dL_law_69 (lv_at hl 5 rfl) ?_
    refine lv_bipush (v := 34) hx hb dL_law_71 (by decide) ?_
    refine lv_icmp_ge (tgt := 970) hx hb dL_law_73 (by decide) (fun hc => ?_) (fun hc => ?_)
    · have hm := ifp hc hm
      cases sm hm
      cases sm hm2
      refine W.widen (k := 600086) (n := 7301442) (by omega) (by omega) ?_
      exact kk _ _ _ R X (lv_sub hl [0] rfl)
    · have hm := ifn hc hm
      refine lv_aload_n hx hb dL_law_76 rfl (lv_at hl 0 rfl) ?_
      refine lv_iconst (v := 2) hx hb dL_law_77 (by decide) ?_
      refine lv_iload hx hb dL_law_78 (lv_at hl 5 rfl) ?_
      refine lv_imul hx hb dL_law_80 ?_
      obtain ⟨r25, hcl, hm⟩ := bnd hm
      refine kScell C X hX hbl hbA r25 hcl (cw_L_law_cell C) hl (rest := []) rfl (Nat.le_of_ble_eq_true rfl) (st2 := [.int r25]) rfl dL_law_81 ⟨by have := hfit.1; show _ ≤ 600086; omega, by have := hfit.2; show _ ≤ 7301442; omega⟩ (fun H locs X => ?_)
      clear hcl
      refine lv_istore (lv' := [(6, .int r25), (0, .ref b), (1, .ref (D 0 0)), (2, .ref (a 0)), (3, .int x11), (4, .int x12), (5, .int x13)]) hx hb dL_law_84 hl (by decide) rfl (fun ls hl => ?_)
      refine lv_aload_n hx hb dL_law_86 rfl (lv_at hl 1 rfl) ?_
      refine lv_iconst (v := 2) hx hb dL_law_87 (by decide) ?_
      refine lv_iload hx hb dL_law_88 (lv_at hl 6 rfl) ?_
      refine lv_imul hx hb dL_law_90 ?_
      refine lv_iconst (v := 1) hx hb dL_law_91 (by decide) ?_
      refine lv_iadd hx hb dL_law_92 ?_
      obtain ⟨r26, hcl, hm⟩ := bnd hm
      refine kScell C X hX hbl hbA r26 hcl (cw_L_law_cell C) hl (rest := []) rfl (Nat.le_of_ble_eq_true rfl) (st2 := [.int r26]) rfl dL_law_93 ⟨by have := hfit.1; show _ ≤ 600086; omega, by have := hfit.2; show _ ≤ 7301442; omega⟩ (fun H locs X => ?_)
      clear hcl
      refine lv_istore (lv' := [(7, .int r26), (6, .int r25), (0, .ref b), (1, .ref (D 0 0)), (2, .ref (a 0)), (3, .int x11), (4, .int x12), (5, .int x13)]) hx hb dL_law_96 hl (by decide) rfl (fun ls hl => ?_)
      refine lv_iload hx hb dL_law_98 (lv_at hl 7 rfl) ?_
      refine lv_bipush (v := 6) hx hb dL_law_100 (by decide) ?_
      obtain ⟨v28, hE, hm⟩ := bnd hm
      have K : ∀ (H : Heap) (locs : List Loc) (ls : Array Slot) (R29 : kAd), ST g A s H locs (wR g a na u20 ++ wB g D R29 u14 w15 w16 u17 u18 w19) → lv_has ls 16 [(0, .ref b), (1, .ref (D 0 0)), (2, .ref (a 0)), (3, .int x11), (4, .int x12), (5, .int x13), (6, .int r25), (7, .int r26)] → W p l e room_1 s m args below meth c H locs (cells + 0) (slots + 0) Q (F0 m 116 ls [.int v28]) := by
        intro H locs ls R29 X hl
        clear hE
        refine lv_istore (lv' := [(8, .int v28), (0, .ref b), (1, .ref (D 0 0)), (2, .ref (a 0)), (3, .int x11), (4, .int x12), (5, .int x13), (6, .int r25), (7, .int r26)]) hx hb dL_law_116 hl (by decide) rfl (fun ls hl => ?_)
        refine lv_iload hx hb dL_law_118 (lv_at hl 8 rfl) ?_
        refine lv_bipush (v := 100) hx hb dL_law_120 (by decide) ?_
        obtain ⟨r31, hcl, hm⟩ := bnd hm
        refine kS0c C X (kL_low l g r26 100 r31 hcl) (cw_L_law_L_low_106 C) (As := [.int r26, .int 100]) rfl hl (rest := []) rfl (Nat.le_of_ble_eq_true rfl) (st2 := [.int r31]) rfl dL_law_122 ⟨by have := hfit.1; show _ ≤ 600086; omega, by have := hfit.2; show _ ≤ 7301442; omega⟩ (fun H locs X => ?_)
        clear hcl
        refine lv_istore (lv' := [(9, .int r31), (8, .int v28), (0, .ref b), (1, .ref (D 0 0)), (2, .ref (a 0)), (3, .int x11), (4, .int x12), (5, .int x13), (6, .int r25), (7, .int r26)]) hx hb dL_law_125 hl (by decide) rfl (fun ls hl => ?_)
        refine lv_iload hx hb dL_law_127 (lv_at hl 8 rfl) ?_
        refine lv_bipush (v := 6) hx hb dL_law_129 (by decide) ?_
        refine lv_ishr hx hb dL_law_131 ?_
        refine lv_iconst (v := 1) hx hb dL_law_132 (by decide) ?_
        refine lv_iand hx hb dL_law_133 ?_
        obtain ⟨v34, hE, hm⟩ := bnd hm
        have K : ∀ (H : Heap) (locs : List Loc) (ls : Array Slot) (R35 : kAd), ST g A s H locs (wR g a na u20 ++ wB g D R35 u14 w15 w16 u17 u18 w19) → lv_has ls 16 [(0, .ref b), (1, .ref (D 0 0)), (2, .ref (a 0)), (3, .int x11), (4, .int x12), (5, .int x13), (6, .int r25), (7, .int r26), (8, .int v28), (9, .int r31)] → W p l e room_1 s m args below meth c H locs (cells + 0) (slots + 0) Q (F0 m 168 ls [.int v34]) := by
          intro H locs ls R35 X hl
          clear hE
          refine lv_istore (lv' := [(10, .int v34), (0, .ref b), (1, .ref (D 0 0)), (2, .ref (a 0)), (3, .int x11), (4, .int x12), (5, .int x13), (6, .int r25), (7, .int r26), (8, .int v28), (9, .int r31)]) hx hb dL_law_168 hl (by decide) rfl (fun ls hl => ?_)
          refine lv_iconst (v := 1) hx hb dL_law_170 (by decide) ?_
          refine lv_iload hx hb dL_law_171 (lv_at hl 8 rfl) ?_
          refine lv_bipush (v := 14) hx hb dL_law_173 (by decide) ?_
          refine lv_ishr hx hb dL_law_175 ?_
          refine lv_bipush (v := 20) hx hb dL_law_176 (by decide) ?_
          obtain ⟨r38, hcl, hm⟩ := bnd hm
          refine kS0c C X (kL_low l g (r26 >>> (14 &&& 31)) 20 r38 hcl) (cw_L_law_L_low_106 C) (As := [.int (r26 >>> (14 &&& 31)), .int 20]) rfl hl (rest := [.int 1]) rfl (Nat.le_of_ble_eq_true rfl) (st2 := [.int r38, .int 1]) rfl dL_law_178 ⟨by have := hfit.1; show _ ≤ 600086; omega, by have := hfit.2; show _ ≤ 7301442; omega⟩ (fun H locs X => ?_)
          clear hcl
          refine lv_iadd hx hb dL_law_181 ?_
          refine lv_istore (lv' := [(11, .int (1 + r38)), (10, .int v34), (0, .ref b), (1, .ref (D 0 0)), (2, .ref (a 0)), (3, .int x11), (4, .int x12), (5, .int x13), (6, .int r25), (7, .int r26), (8, .int v28), (9, .int r31)]) hx hb dL_law_182 hl (by decide) rfl (fun ls hl => ?_)
          refine lv_iload hx hb dL_law_184 (lv_at hl 8 rfl) ?_
          refine lv_bipush (v := 8) hx hb dL_law_186 (by decide) ?_
          refine lv_ishr hx hb dL_law_188 ?_
          refine lv_iload_n hx hb dL_law_189 rfl (lv_at hl 5 rfl) ?_
          refine lv_iconst (v := 1) hx hb dL_law_190 (by decide) ?_
          refine lv_iadd hx hb dL_law_191 ?_
          obtain ⟨r39, hcl, hm⟩ := bnd hm
          refine kS0c C X (kL_low l g (r25 >>> (8 &&& 31)) (x11 + 1) r39 hcl) (cw_L_law_L_low_106 C) (As := [.int (r25 >>> (8 &&& 31)), .int (x11 + 1)]) rfl hl (rest := []) rfl (Nat.le_of_ble_eq_true rfl) (st2 := [.int r39]) rfl dL_law_192 ⟨by have := hfit.1; show _ ≤ 600086; omega, by have := hfit.2; show _ ≤ 7301442; omega⟩ (fun H locs X => ?_)
          clear hcl
          refine lv_istore (lv' := [(12, .int r39), (11, .int (1 + r38)), (10, .int v34), (0, .ref b), (1, .ref (D 0 0)), (2, .ref (a 0)), (3, .int x11), (4, .int x12), (5, .int x13), (6, .int r25), (7, .int r26), (8, .int v28), (9, .int r31)]) hx hb dL_law_195 hl (by decide) rfl (fun ls hl => ?_)
          obtain ⟨⟨v40, v41, u42, u43, u44, u45⟩, hcl, hm⟩ := bnd hm
          refine gL_law_197 hl9 D a C na x11 x12 x13 r25 r26 v28 r31 v34 (1 + r38) r39 u14 w15 w16 u17 u18 w19 u20 v40 v41 u42 u43 u44 u45 ⟨by have := hfit.1; omega, by have := hfit.2; omega⟩ (fun H locs ls R46 X hl => ?_) hcl _ _ _ R35 X (lv_sub hl [3, 4, 5, 6, 7, 8, 9, 10, 11, 12, 2, 1, 0] rfl)
          clear hcl
          refine lv_aload_n hx hb dL_law_928 rfl (lv_at hl 1 rfl) ?_
          refine lv_iconst (v := 0) hx hb dL_law_929 (by decide) ?_
          refine lv_aload_n hx hb dL_law_930 rfl (lv_at hl 2 rfl) ?_
          refine lv_iload_n hx hb dL_law_931 rfl (lv_at hl 3 rfl) ?_
          refine lv_iload hx hb dL_law_932 (lv_at hl 4 rfl) ?_
          obtain ⟨r47, hcl, hm⟩ := bnd hm
          refine kSp [] (pm_wh _) C X (kL_isSo l g D R46 a 0 v40 v41 na u42 w15 w16 u43 u44 w19 u45 r47 hcl) (cw_L_law_L_isSo_148 C) (As := [.ref (D 0 0), .int 0, .ref (a 0), .int v40, .int v41]) rfl hl (rest := []) rfl (Nat.le_of_ble_eq_true rfl) (st2 := [.int r47]) rfl dL_law_934 ⟨by have := hfit.1; show _ ≤ 600086; omega, by have := hfit.2; show _ ≤ 7301442; omega⟩ (w3 := wR g a na u45 ++ wB g D R46 u42 w15 w16 u43 u44 w19) (pm_wi _) (fun H locs X => ?_)
          clear hcl
          refine lv_if_eq (tgt := 962) hx hb dL_law_937 (by decide) (fun hc => ?_) (fun hc => ?_)
          · have hm := ifp hc hm
            cases hm
          · have hm := ifn hc hm
            refine lv_iload hx hb dL_law_940 (lv_at hl 5 rfl) ?_
            refine lv_iconst (v := 4) hx hb dL_law_942 (by decide) ?_
            refine lv_irem hx hb dL_law_943 (by decide) ?_
            refine lv_iconst (v := 3) hx hb dL_law_944 (by decide) ?_
            obtain ⟨u51, hE, hm⟩ := bnd hm
            have K : ∀ (H : Heap) (locs : List Loc) (ls : Array Slot) (R50 : kAd), ST g A s H locs (wR g a na u45 ++ wB g D R50 u42 w15 w16 u51 u44 w19) → lv_has ls 16 [(0, .ref b), (1, .ref (D 0 0)), (2, .ref (a 0)), (3, .int v40), (4, .int v41), (5, .int x13)] → W p l e room_1 s m args below meth c H locs (cells + 80) (slots + 2000) Q (F0 m 964 ls []) := by
              intro H locs ls R50 X hl
              clear hE
              refine lv_iinc (v := x13 + 1) (lv' := [(5, .int (x13 + 1)), (0, .ref b), (1, .ref (D 0 0)), (2, .ref (a 0)), (3, .int v40), (4, .int v41)]) hx hb dL_law_964 hl (k := 5) rfl rfl (by decide) rfl (fun ls hl => ?_)
              refine lv_goto (tgt := 69) hx hb dL_law_967 (by decide) ?_
              cases sm hm
              refine W.widen (k := cells + 120) (n := slots + 2600) (by omega) (by omega) ?_
              exact ih _ _ _ _ _ _ _ hm2 _ _ ⟨by omega, by omega⟩ _ _ _ R50 X (lv_sub hl [1, 2, 3, 4, 5, 0] rfl)
            clear hm
            have hm := hE
            clear hE
            refine lv_icmp_ne (tgt := 964) hx hb dL_law_945 (by decide) (fun hc => ?_) (fun hc => ?_)
            · have hm := ifn hc hm
              cases sm hm
              refine W.widen (k := cells + 80) (n := slots + 2000) (by omega) (by omega) ?_
              exact K _ _ _ R46 X (lv_sub hl [0, 1, 2, 3, 4, 5] rfl)
            · have hm := ifp hc hm
              refine lv_aload_n hx hb dL_law_948 rfl (lv_at hl 1 rfl) ?_
              refine lv_iconst (v := 0) hx hb dL_law_949 (by decide) ?_
              refine lv_aload_n hx hb dL_law_950 rfl (lv_at hl 2 rfl) ?_
              refine lv_iload_n hx hb dL_law_951 rfl (lv_at hl 3 rfl) ?_
              refine lv_iload hx hb dL_law_952 (lv_at hl 6 rfl) ?_
              refine lv_iconst (v := 4) hx hb dL_law_954 (by decide) ?_
              refine lv_ishr hx hb dL_law_955 ?_
              obtain ⟨⟨r52, s53⟩, hcl, hm⟩ := bnd hm
              refine kSp [] (pm_wh _) C X (kL_isAhead l g D R46 a 0 v40 (r25 >>> (4 &&& 31)) na u42 w15 w16 u43 u44 w19 u45 r52 s53 hcl) (cw_L_law_L_isAhead_152 C) (As := [.ref (D 0 0), .int 0, .ref (a 0), .int v40, .int (r25 >>> (4 &&& 31))]) rfl hl (rest := []) rfl (Nat.le_of_ble_eq_true rfl) (st2 := [.int r52]) rfl dL_law_956 ⟨by have := hfit.1; show _ ≤ 600086; omega, by have := hfit.2; show _ ≤ 7301442; omega⟩ (w3 := wR g a na u45 ++ wB g D R46 u42 w15 w16 s53 u44 w19) (pm_wi _) (fun H locs X => ?_)
              clear hcl
              refine lv_if_ne (tgt := 964) hx hb dL_law_959 (by decide) (fun hc => ?_) (fun hc => ?_)
              · have hm := ifn hc hm
                cases sm hm
                refine W.widen (k := cells + 80) (n := slots + 2000) (by omega) (by omega) ?_
                exact K _ _ _ R46 X (lv_sub hl [0, 1, 2, 3, 4, 5] rfl)
              · have hm := ifp hc hm
                cases hm
        clear hm
        have hm := hE
        clear hE
        refine lv_if_ne (tgt := 150) hx hb dL_law_134 (by decide) (fun hc => ?_) (fun hc => ?_)
        · have hm := ifn hc hm
          refine lv_iload hx hb dL_law_150 (lv_at hl 0 rfl) ?_
          refine lv_iconst (v := 2) hx hb dL_law_152 (by decide) ?_
          refine lv_idiv hx hb dL_law_153 (by decide) ?_
          refine lv_iload hx hb dL_law_154 (lv_at hl 9 rfl) ?_
          refine lv_bipush (v := 7) hx hb dL_law_156 (by decide) ?_
          refine lv_ishr hx hb dL_law_158 ?_
          refine lv_bipush (v := 7) hx hb dL_law_159 (by decide) ?_
          obtain ⟨r36, hcl, hm⟩ := bnd hm
          refine kS0c C X (kL_low l g (r26 >>> (7 &&& 31)) 7 r36 hcl) (cw_L_law_L_low_106 C) (As := [.int (r26 >>> (7 &&& 31)), .int 7]) rfl hl (rest := [.int (r31 / 2)]) rfl (Nat.le_of_ble_eq_true rfl) (st2 := [.int r36, .int (r31 / 2)]) rfl dL_law_161 ⟨by have := hfit.1; show _ ≤ 600086; omega, by have := hfit.2; show _ ≤ 7301442; omega⟩ (fun H locs X => ?_)
          clear hcl
          refine lv_iadd hx hb dL_law_164 ?_
          refine lv_bipush (v := 100) hx hb dL_law_165 (by decide) ?_
          refine lv_irem hx hb dL_law_167 (by decide) ?_
          cases sm hm
          refine W.widen (k := cells + 0) (n := slots + 0) (by omega) (by omega) ?_
          exact K _ _ _ R29 X (lv_sub hl [2, 3, 4, 5, 6, 7, 8, 9, 1, 0] rfl)
        · have hm := ifp hc hm
          refine lv_iload hx hb dL_law_137 (lv_at hl 9 rfl) ?_
          refine lv_bipush (v := 7) hx hb dL_law_139 (by decide) ?_
          refine lv_ishr hx hb dL_law_141 ?_
          refine lv_bipush (v := 100) hx hb dL_law_142 (by decide) ?_
          obtain ⟨r37, hcl, hm⟩ := bnd hm
          refine kS0c C X (kL_low l g (r26 >>> (7 &&& 31)) 100 r37 hcl) (cw_L_law_L_low_106 C) (As := [.int (r26 >>> (7 &&& 31)), .int 100]) rfl hl (rest := []) rfl (Nat.le_of_ble_eq_true rfl) (st2 := [.int r37]) rfl dL_law_144 ⟨by have := hfit.1; show _ ≤ 600086; omega, by have := hfit.2; show _ ≤ 7301442; omega⟩ (fun H locs X => ?_)
          clear hcl
          refine lv_goto (tgt := 168) hx hb dL_law_147 (by decide) ?_
          cases sm hm
          refine W.widen (k := cells + 0) (n := slots + 0) (by omega) (by omega) ?_
          exact K _ _ _ R29 X (lv_sub hl [2, 3, 4, 5, 6, 7, 8, 9, 1, 0] rfl)
      clear hm
      have hm := hE
      clear hE
      refine lv_icmp_ge (tgt := 109) hx hb dL_law_102 (by decide) (fun hc => ?_) (fun hc => ?_)
      · have hm := ifp hc hm
        refine lv_iload hx hb dL_law_109 (lv_at hl 1 rfl) ?_
        refine lv_bipush (v := 12) hx hb dL_law_111 (by decide) ?_
        obtain ⟨r30, hcl, hm⟩ := bnd hm
        refine kS0c C X (kL_low l g r25 12 r30 hcl) (cw_L_law_L_low_106 C) (As := [.int r25, .int 12]) rfl hl (rest := []) rfl (Nat.le_of_ble_eq_true rfl) (st2 := [.int r30]) rfl dL_law_113 ⟨by have := hfit.1; show _ ≤ 600086; omega, by have := hfit.2; show _ ≤ 7301442; omega⟩ (fun H locs X => ?_)
        clear hcl
        cases sm hm
        refine W.widen (k := cells + 0) (n := slots + 0) (by omega) (by omega) ?_
        exact K _ _ _ R X (lv_sub hl [2, 3, 4, 5, 6, 7, 1, 0] rfl)
      · have hm := ifn hc hm
        refine lv_iconst (v := 0) hx hb dL_law_105 (by decide) ?_
        refine lv_goto (tgt := 116) hx hb dL_law_106 (by decide) ?_
        cases sm hm
        refine W.widen (k := cells + 0) (n := slots + 0) (by omega) (by omega) ?_
        exact K _ _ _ R X (lv_sub hl [2, 3, 4, 5, 6, 7, 1, 0] rfl)
noncomputable def fL_law (na L : Nat) (xs : Nat → Int32) (u : ShS) (ps : PS) (hs : HS) (f : (Nat → Int32)) : Option Unit := (fL_put 0 5 5 5 na f).bind fun u1 => (fL_put 1 40 20 5 na u1).bind fun u2 => (fL_stroke 5 5 100 20 u hs).bind fun (r3, s4, s5) => if r3 = (-32) then ((fL_stroke 5 5 40 20 s4 s5).bind fun (r7, s8, s9) => if r7 = 0 then ((whl (bL_law_69 na L xs) 35 (2, 3, 0, s8, ps, s9, u2)).bind fun (u54, u55, u56, u57) => some ()) else none) else none
set_option maxRecDepth 100000 in
set_option maxHeartbeats 8000000 in
theorem kL_law {p : Program} {l : Launch} {e : Env} {s : State} {m : MethodId} {args : Array Value} {below : List Frame} {meth : Method} {c : Code} {g : kG} {A : Nat → Prop} {Q : State → Prop} {b : Nat} (hl9 : l.stackTraces = false) (D : Nat → Nat → Nat) (R : kAd) (a : Nat → Nat) (C : CT g p s m args meth c RL cL_law 16 (some .boolean) wsL_law A) (na L : Nat) (xs : Nat → Int32) (hX : va_X b L xs s s.heap) (hbl : b < s.heap.size) (hbA : ¬ A b) (u : ShS) (ts : TS) (bs : SS) (ps : PS) (hs : HS) (ns : NS) (f : (Nat → Int32)) {cells slots : Nat} (hfit : cells + 4320 ≤ 600086 ∧ slots + 93600 ≤ 7301442) (hm : fL_law na L xs u ps hs f = some ()) (H : Heap) (locs : List Loc) (ls : Array Slot) (X : ST g A s H locs (wR g a na f ++ wB g D R u ts bs ps hs ns)) (hl : lv_has ls 16 [(0, .ref b), (1, .ref (D 0 0)), (2, .ref (a 0)), (3, .int 2), (4, .int 3)]) (kk : ∀ (H : Heap) (locs : List Loc) (ls : Array Slot) {ws : va_W}, ST g A s H locs ws → lv_has ls 16 [(0, .ref b)] → W p l e room_1 s m args below meth c H locs 600086 7301442 Q (F0 m 970 ls [])) : W p l e room_1 s m args below meth c H locs cells slots Q (F0 m 18 ls []) := by
  have hx := C.1
  have hb := C.2.1
  rw [fL_law] at hm
  refine lv_aload_n hx hb dL_law_18 rfl (lv_at hl 2 rfl) ?_
  refine lv_iconst (v := 0) hx hb dL_law_19 (by decide) ?_
  refine lv_iconst (v := 5) hx hb dL_law_20 (by decide) ?_
  refine lv_iconst (v := 5) hx hb dL_law_21 (by decide) ?_
  refine lv_iconst (v := 5) hx hb dL_law_22 (by decide) ?_
  obtain ⟨u1, hcl, hm⟩ := bnd hm
  refine kSp _ (List.Perm.refl _) C X (kL_put l g a 0 5 5 5 na f u1 hcl) (cw_L_law_L_put_122 C) (As := [.ref (a 0), .int 0, .int 5, .int 5, .int 5]) rfl hl (rest := []) rfl (Nat.le_of_ble_eq_true rfl) (st2 := []) rfl dL_law_23 ⟨by have := hfit.1; show _ ≤ 600086; omega, by have := hfit.2; show _ ≤ 7301442; omega⟩ (w3 := wR g a na u1 ++ wB g D R u ts bs ps hs ns) List.perm_append_comm (fun H locs X => ?_)
  clear hcl
  refine lv_aload_n hx hb dL_law_26 rfl (lv_at hl 2 rfl) ?_
  refine lv_iconst (v := 1) hx hb dL_law_27 (by decide) ?_
  refine lv_bipush (v := 40) hx hb dL_law_28 (by decide) ?_
  refine lv_bipush (v := 20) hx hb dL_law_30 (by decide) ?_
  refine lv_iconst (v := 5) hx hb dL_law_32 (by decide) ?_
  obtain ⟨u2, hcl, hm⟩ := bnd hm
  refine kSp _ (List.Perm.refl _) C X (kL_put l g a 1 40 20 5 na u1 u2 hcl) (cw_L_law_L_put_122 C) (As := [.ref (a 0), .int 1, .int 40, .int 20, .int 5]) rfl hl (rest := []) rfl (Nat.le_of_ble_eq_true rfl) (st2 := []) rfl dL_law_33 ⟨by have := hfit.1; show _ ≤ 600086; omega, by have := hfit.2; show _ ≤ 7301442; omega⟩ (w3 := wR g a na u2 ++ wB g D R u ts bs ps hs ns) List.perm_append_comm (fun H locs X => ?_)
  clear hcl
  refine lv_aload_n hx hb dL_law_36 rfl (lv_at hl 1 rfl) ?_
  refine lv_iconst (v := 5) hx hb dL_law_37 (by decide) ?_
  refine lv_iconst (v := 5) hx hb dL_law_38 (by decide) ?_
  refine lv_bipush (v := 100) hx hb dL_law_39 (by decide) ?_
  refine lv_bipush (v := 20) hx hb dL_law_41 (by decide) ?_
  obtain ⟨⟨r3, s4, s5⟩, hcl, hm⟩ := bnd hm
  refine keSW (wR g a na u2) List.perm_append_comm C X (kL_stroke l hl9 g D R 5 5 100 20 u ts bs ps hs ns r3 s4 s5 hcl) (cw_L_law_L_stroke_126 C) (As := [.ref (D 0 0), .int 5, .int 5, .int 100, .int 20]) rfl hl (rest := []) rfl (Nat.le_of_ble_eq_true rfl) (st2 := [.int r3]) rfl dL_law_43 ⟨by have := hfit.1; show _ ≤ 600086; omega, by have := hfit.2; show _ ≤ 7301442; omega⟩ (w4 := fun R6 => wR g a na u2 ++ wB g D R6 s4 ts bs ps s5 ns) (fun _ => List.Perm.refl _) (fun R6 H locs X => ?_)
  clear hcl
  refine lv_bipush (v := (-32)) hx hb dL_law_46 (by decide) ?_
  refine lv_icmp_ne (tgt := 64) hx hb dL_law_48 (by decide) (fun hc => ?_) (fun hc => ?_)
  · have hm := ifn hc hm
    cases hm
  · have hm := ifp hc hm
    refine lv_aload_n hx hb dL_law_51 rfl (lv_at hl 1 rfl) ?_
    refine lv_iconst (v := 5) hx hb dL_law_52 (by decide) ?_
    refine lv_iconst (v := 5) hx hb dL_law_53 (by decide) ?_
    refine lv_bipush (v := 40) hx hb dL_law_54 (by decide) ?_
    refine lv_bipush (v := 20) hx hb dL_law_56 (by decide) ?_
    obtain ⟨⟨r7, s8, s9⟩, hcl, hm⟩ := bnd hm
    refine keSW (wR g a na u2) List.perm_append_comm C X (kL_stroke l hl9 g D R6 5 5 40 20 s4 ts bs ps s5 ns r7 s8 s9 hcl) (cw_L_law_L_stroke_126 C) (As := [.ref (D 0 0), .int 5, .int 5, .int 40, .int 20]) rfl hl (rest := []) rfl (Nat.le_of_ble_eq_true rfl) (st2 := [.int r7]) rfl dL_law_58 ⟨by have := hfit.1; show _ ≤ 600086; omega, by have := hfit.2; show _ ≤ 7301442; omega⟩ (w4 := fun R10 => wR g a na u2 ++ wB g D R10 s8 ts bs ps s9 ns) (fun _ => List.Perm.refl _) (fun R10 H locs X => ?_)
    clear hcl
    refine lv_if_eq (tgt := 66) hx hb dL_law_61 (by decide) (fun hc => ?_) (fun hc => ?_)
    · have hm := ifp hc hm
      refine lv_iconst (v := 0) hx hb dL_law_66 (by decide) ?_
      refine lv_istore (lv' := [(5, .int 0), (0, .ref b), (1, .ref (D 0 0)), (2, .ref (a 0)), (3, .int 2), (4, .int 3)]) hx hb dL_law_67 hl (by decide) rfl (fun ls hl => ?_)
      obtain ⟨⟨u54, u55, u56, u57⟩, hL, hm⟩ := bnd hm
      refine tL_law_69 hl9 D a C ts bs ns na L xs hX hbl hbA u54 u55 u56 u57 (fun H locs ls R X hl => ?_) 35 _ _ _ _ _ _ _ hL _ _ ⟨by have := hfit.1; omega, by have := hfit.2; omega⟩ _ _ _ R10 X (lv_sub hl [1, 2, 3, 4, 5, 0] rfl)
      clear hL
      cases sm hm
      exact kk _ _ _ X hl
    · have hm := ifn hc hm
      cases hm
