section
/-! the whole: strokes go, are simplified; settings; saved states and snapshots -/
theorem SR.note {u : ShS} {z : Nat → Int32} {sc : Int} (h : SR u z sc) (d : Int32) : SR (u.1, Sh_values u, Sh_strokeCount u, Sh_simplified u + 1, Sh_dropped u + d) (upd (upd z (301 : Int).toNat (z (301 : Int).toNat + 1)) (302 : Int).toNat (z (302 : Int).toNat + d)) sc := by
  obtain ⟨h1, h2, h3, h4, h5, h6, h7⟩ := h
  refine ⟨h1, h2, by rw [upd_n (by omega), upd_n (by omega)]; exact h3, fun s s0 s1 => (h4 s s0 s1).mv (fun j j0 j1 => by rw [upd_n (by omega), upd_n (by omega)]), fun i i0 i1 => ?_, ?_, ?_⟩
  · obtain ⟨v, a1, a2, a3⟩ := h5 i i0 i1
    exact ⟨v, a1, by rw [upd_n (by omega), upd_n (by omega)]; exact a2, a3⟩
  · rw [upd_n (by omega), upd_s, ← h6]
  · rw [upd_s, ← h7]
theorem SR.setv {u : ShS} {z : Nat → Int32} {sc i v : Int} (h : SR u z sc) (i0 : 0 ≤ i) (i1 : i < 4) (v0 : vlo i ≤ v) (v1 : v ≤ vhi i) : SR (Sh_s_values u (upd (Sh_values u) i.toNat (iZ v))) (upd z (297 + i).toNat (iZ v)) sc := by
  obtain ⟨h1, h2, h3, h4, h5, h6, h7⟩ := h
  refine ⟨h1, h2, by rw [upd_n (by omega)]; exact h3, fun s s0 s1 => (h4 s s0 s1).mv (fun j j0 j1 => by rw [upd_n (by omega)]), fun k k0 k1 => ?_, by rw [upd_n (by omega)]; exact h6, by rw [upd_n (by omega)]; exact h7⟩
  by_cases e : k = i
  · subst e
    exact ⟨v, upd_s, upd_s, v0, v1⟩
  · obtain ⟨w, a1, a2, a3⟩ := h5 k k0 k1
    exact ⟨w, by show upd _ _ _ _ = _; rw [upd_n (by omega)]; exact a1, by rw [upd_n (by omega)]; exact a2, a3⟩
theorem cT1 {i : Int} (i0 : 0 ≤ i) (i1 : i < 4) : fX5_cellT1 (iZ i) = some (iZ (vlo i)) := by
  have : i = 0 ∨ i = 1 ∨ i = 2 ∨ i = 3 := by omega
  rcases this with rfl | rfl | rfl | rfl <;> rfl
theorem cT2 {i : Int} (i0 : 0 ≤ i) (i1 : i < 4) : fX5_cellT2 (iZ i) = some (iZ (vhi i)) := by
  have : i = 0 ∨ i = 1 ∨ i = 2 ∨ i = 3 := by omega
  rcases this with rfl | rfl | rfl | rfl <;> rfl
theorem rLeast {i : Int} (i0 : 0 ≤ i) (i1 : i < 4) : ((if i = 2 then some (iZ 1) else some (iZ 0)) : Option Int32) = some (iZ (vlo i)) := by
  have : i = 0 ∨ i = 1 ∨ i = 2 ∨ i = 3 := by omega
  rcases this with rfl | rfl | rfl | rfl <;> rfl
theorem v_b {i : Int} (i0 : 0 ≤ i) (i1 : i < 4) : (0 ≤ vlo i ∧ vlo i ≤ 1) ∧ 20 ≤ vhi i ∧ vhi i ≤ 100 := by
  have : i = 0 ∨ i = 1 ∨ i = 2 ∨ i = 3 := by omega
  rcases this with rfl | rfl | rfl | rfl <;> decide
theorem Sd_st (u : ShS) (d : Int32) (i : Nat) : Sh_st (Sh_s_dropped u d) i = Sh_st u i := rfl
theorem Sm_st (u : ShS) (d : Int32) (i : Nat) : Sh_st (Sh_s_simplified u d) i = Sh_st u i := rfl
section Q
variable {g : kG} {D : Nat → Nat → Nat} {R : kAd} {u : ShS} {ps : PS} {hs : HS} {ns : NS}
end Q
end
