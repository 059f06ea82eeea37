theorem st_stroke (l : Launch) (hl9 : l.stackTraces = false) (g : kG) (D : Nat → Nat → Nat) (R : kAd) (u : ShS) (ts : TS) (bs : SS) (ps : PS) (hs : HS) (ns : NS) (mm : MS) (G : GR u ts hs ns mm) (p1 p2 p3 p4 : Int32) (o : Nat) (f : Nat → Int64) : ∃ (kk : Int32) (f' : Nat → Int64) (w2 : kAd → va_W) (bb : Int32) (m' : MS), fX6_stroke p1 p2 p3 p4 mm = some (bb, m') ∧ KE (S := kAd) l yL_stroke wsL_stroke rL_stroke g [.ref (D 0 0), .int p1, .int p2, .int p3, .int p4, .ref o] (wOut g o f ++ wB g D R u ts bs ps hs ns) (some (.int kk)) (fun s => wOut g o f' ++ w2 s) 18 419 ∧ M_thrown m' = kk ∧ (kk = 0 → f' 0 = bb.toInt64) ∧ ∀ s, WB g D m' (w2 s) := by
  obtain ⟨ov, bb, m', c1, c2, c3⟩ := g_stroke (g := g) (D := D) (R := R) (bs := bs) (ps := ps) G p1 p2 p3 p4
  have hM := kX5_stroke l hl9 g D R p1 p2 p3 p4 u ts bs ps hs ns ov c1
  generalize obX5_stroke g D R u ts bs ps hs ns ov = out at hM c3
  rcases out with ⟨E, w2⟩ | ⟨r, w2⟩
  · obtain ⟨k, hk, ht, hw⟩ := c3
    match k, hk, ht with
    | 0, hk, ht =>
      cases hk
      exact ⟨1, f, w2, bb, m', c2, kLt_stroke_0 l g (D 0 0) o p1 p2 p3 p4 _ _ rfl f w2 hM, ht, fun q => absurd q (by decide), hw⟩
    | 1, hk, ht =>
      cases hk
      exact ⟨2, f, w2, bb, m', c2, kLt_stroke_1 l g (D 0 0) o p1 p2 p3 p4 _ _ rfl f w2 hM, ht, fun q => absurd q (by decide), hw⟩
    | k + 2, hk, _ => cases hk
  · obtain ⟨rfl, ht, hw⟩ := c3
    exact ⟨0, vp_updL f 0 bb.toInt64, w2, bb, m', c2, kLr_stroke l g (D 0 0) o p1 p2 p3 p4 _ _ rfl f bb w2 hM, ht, fun _ => if_pos rfl, hw⟩
theorem st_draw (l : Launch) (hl9 : l.stackTraces = false) (g : kG) (D : Nat → Nat → Nat) (R : kAd) (u : ShS) (ts : TS) (bs : SS) (ps : PS) (hs : HS) (ns : NS) (mm : MS) (G : GR u ts hs ns mm) (o : Nat) (f : Nat → Int64) : ∃ (kk : Int32) (f' : Nat → Int64) (w2 : kAd → va_W) (bb : Int32) (m' : MS), fX6_draw mm = some (bb, m') ∧ KE (S := kAd) l yL_draw wsL_draw rL_draw g [.ref (D 0 0), .ref o] (wOut g o f ++ wB g D R u ts bs ps hs ns) (some (.int kk)) (fun s => wOut g o f' ++ w2 s) 14 395 ∧ M_thrown m' = kk ∧ (kk = 0 → f' 0 = bb.toInt64) ∧ ∀ s, WB g D m' (w2 s) := by
  obtain ⟨ov, bb, m', c1, c2, c3⟩ := g_draw (g := g) (D := D) (R := R) (bs := bs) (ps := ps) G 
  have hM := kX5_draw l hl9 g D R u ts bs ps hs ns ov c1
  generalize obX5_draw g D R u ts bs ps hs ns ov = out at hM c3
  rcases out with ⟨E, w2⟩ | ⟨r, w2⟩
  · obtain ⟨k, hk, ht, hw⟩ := c3
    match k, hk, ht with
    | 0, hk, ht =>
      cases hk
      exact ⟨1, f, w2, bb, m', c2, kLt_draw_0 l g (D 0 0) o _ _ rfl f w2 hM, ht, fun q => absurd q (by decide), hw⟩
    | 1, hk, ht =>
      cases hk
      exact ⟨2, f, w2, bb, m', c2, kLt_draw_1 l g (D 0 0) o _ _ rfl f w2 hM, ht, fun q => absurd q (by decide), hw⟩
    | k + 2, hk, _ => cases hk
  · obtain ⟨rfl, ht, hw⟩ := c3
    exact ⟨0, vp_updL f 0 bb.toInt64, w2, bb, m', c2, kLr_draw l g (D 0 0) o _ _ rfl f bb w2 hM, ht, fun _ => if_pos rfl, hw⟩
theorem st_insert (l : Launch) (hl9 : l.stackTraces = false) (g : kG) (D : Nat → Nat → Nat) (R : kAd) (u : ShS) (ts : TS) (bs : SS) (ps : PS) (hs : HS) (ns : NS) (mm : MS) (G : GR u ts hs ns mm) (p1 p2 p3 p4 p5 : Int32) (o : Nat) (f : Nat → Int64) : ∃ (kk : Int32) (f' : Nat → Int64) (w2 : kAd → va_W) (bb : Int32) (m' : MS), fX6_insert p1 p2 p3 p4 p5 mm = some (bb, m') ∧ KE (S := kAd) l yL_insert wsL_insert rL_insert g [.ref (D 0 0), .int p1, .int p2, .int p3, .int p4, .int p5, .ref o] (wOut g o f ++ wB g D R u ts bs ps hs ns) (some (.int kk)) (fun s => wOut g o f' ++ w2 s) 17 413 ∧ M_thrown m' = kk ∧ (kk = 0 → f' 0 = bb.toInt64) ∧ ∀ s, WB g D m' (w2 s) := by
  obtain ⟨ov, bb, m', c1, c2, c3⟩ := g_insert (g := g) (D := D) (R := R) (bs := bs) (ps := ps) G p1 p2 p3 p4 p5
  have hM := kX5_insert l hl9 g D R p1 p2 p3 p4 p5 u ts bs ps hs ns ov c1
  generalize obX5_insert g D R u ts bs ps hs ns ov = out at hM c3
  rcases out with ⟨E, w2⟩ | ⟨r, w2⟩
  · obtain ⟨k, hk, ht, hw⟩ := c3
    match k, hk, ht with
    | 0, hk, ht =>
      cases hk
      exact ⟨1, f, w2, bb, m', c2, kLt_insert_0 l g (D 0 0) o p1 p2 p3 p4 p5 _ _ rfl f w2 hM, ht, fun q => absurd q (by decide), hw⟩
    | 1, hk, ht =>
      cases hk
      exact ⟨2, f, w2, bb, m', c2, kLt_insert_1 l g (D 0 0) o p1 p2 p3 p4 p5 _ _ rfl f w2 hM, ht, fun q => absurd q (by decide), hw⟩
    | 2, hk, ht =>
      cases hk
      exact ⟨3, f, w2, bb, m', c2, kLt_insert_2 l g (D 0 0) o p1 p2 p3 p4 p5 _ _ rfl f w2 hM, ht, fun q => absurd q (by decide), hw⟩
    | k + 3, hk, _ => cases hk
  · obtain ⟨rfl, ht, hw⟩ := c3
    exact ⟨0, vp_updL f 0 bb.toInt64, w2, bb, m', c2, kLr_insert l g (D 0 0) o p1 p2 p3 p4 p5 _ _ rfl f bb w2 hM, ht, fun _ => if_pos rfl, hw⟩
theorem st_change (l : Launch) (hl9 : l.stackTraces = false) (g : kG) (D : Nat → Nat → Nat) (R : kAd) (u : ShS) (ts : TS) (bs : SS) (ps : PS) (hs : HS) (ns : NS) (mm : MS) (G : GR u ts hs ns mm) (p1 p2 p3 p4 p5 : Int32) (o : Nat) (f : Nat → Int64) : ∃ (kk : Int32) (f' : Nat → Int64) (w2 : kAd → va_W) (bb : Int32) (m' : MS), fX6_change p1 p2 p3 p4 p5 mm = some (bb, m') ∧ KE (S := kAd) l yL_change wsL_change rL_change g [.ref (D 0 0), .int p1, .int p2, .int p3, .int p4, .int p5, .ref o] (wOut g o f ++ wB g D R u ts bs ps hs ns) (some (.int kk)) (fun s => wOut g o f' ++ w2 s) 18 419 ∧ M_thrown m' = kk ∧ (kk = 0 → f' 0 = bb.toInt64) ∧ ∀ s, WB g D m' (w2 s) := by
  obtain ⟨ov, bb, m', c1, c2, c3⟩ := g_change (g := g) (D := D) (R := R) (bs := bs) (ps := ps) G p1 p2 p3 p4 p5
  have hM := kX5_change l hl9 g D R p1 p2 p3 p4 p5 u ts bs ps hs ns ov c1
  generalize obX5_change g D R u ts bs ps hs ns ov = out at hM c3
  rcases out with ⟨E, w2⟩ | ⟨r, w2⟩
  · obtain ⟨k, hk, ht, hw⟩ := c3
    match k, hk, ht with
    | 0, hk, ht =>
      cases hk
      exact ⟨1, f, w2, bb, m', c2, kLt_change_0 l g (D 0 0) o p1 p2 p3 p4 p5 _ _ rfl f w2 hM, ht, fun q => absurd q (by decide), hw⟩
    | 1, hk, ht =>
      cases hk
      exact ⟨2, f, w2, bb, m', c2, kLt_change_1 l g (D 0 0) o p1 p2 p3 p4 p5 _ _ rfl f w2 hM, ht, fun q => absurd q (by decide), hw⟩
    | k + 2, hk, _ => cases hk
  · obtain ⟨rfl, ht, hw⟩ := c3
    exact ⟨0, vp_updL f 0 bb.toInt64, w2, bb, m', c2, kLr_change l g (D 0 0) o p1 p2 p3 p4 p5 _ _ rfl f bb w2 hM, ht, fun _ => if_pos rfl, hw⟩
theorem st_remove (l : Launch) (hl9 : l.stackTraces = false) (g : kG) (D : Nat → Nat → Nat) (R : kAd) (u : ShS) (ts : TS) (bs : SS) (ps : PS) (hs : HS) (ns : NS) (mm : MS) (G : GR u ts hs ns mm) (p1 p2 : Int32) (o : Nat) (f : Nat → Int64) : ∃ (kk : Int32) (f' : Nat → Int64) (w2 : kAd → va_W) (bb : Int32) (m' : MS), fX6_remove p1 p2 mm = some (bb, m') ∧ KE (S := kAd) l yL_remove wsL_remove rL_remove g [.ref (D 0 0), .int p1, .int p2, .ref o] (wOut g o f ++ wB g D R u ts bs ps hs ns) (some (.int kk)) (fun s => wOut g o f' ++ w2 s) 15 401 ∧ M_thrown m' = kk ∧ (kk = 0 → f' 0 = bb.toInt64) ∧ ∀ s, WB g D m' (w2 s) := by
  obtain ⟨ov, bb, m', c1, c2, c3⟩ := g_remove (g := g) (D := D) (R := R) (bs := bs) (ps := ps) G p1 p2
  have hM := kX5_remove l hl9 g D R p1 p2 u ts bs ps hs ns ov c1
  generalize obX5_remove g D R u ts bs ps hs ns ov = out at hM c3
  rcases out with ⟨E, w2⟩ | ⟨r, w2⟩
  · obtain ⟨k, hk, ht, hw⟩ := c3
    match k, hk, ht with
    | 0, hk, ht =>
      cases hk
      exact ⟨1, f, w2, bb, m', c2, kLt_remove_0 l g (D 0 0) o p1 p2 _ _ rfl f w2 hM, ht, fun q => absurd q (by decide), hw⟩
    | 1, hk, ht =>
      cases hk
      exact ⟨2, f, w2, bb, m', c2, kLt_remove_1 l g (D 0 0) o p1 p2 _ _ rfl f w2 hM, ht, fun q => absurd q (by decide), hw⟩
    | k + 2, hk, _ => cases hk
  · obtain ⟨rfl, ht, hw⟩ := c3
    exact ⟨0, vp_updL f 0 bb.toInt64, w2, bb, m', c2, kLr_remove l g (D 0 0) o p1 p2 _ _ rfl f bb w2 hM, ht, fun _ => if_pos rfl, hw⟩
theorem st_erase (l : Launch) (hl9 : l.stackTraces = false) (g : kG) (D : Nat → Nat → Nat) (R : kAd) (u : ShS) (ts : TS) (bs : SS) (ps : PS) (hs : HS) (ns : NS) (mm : MS) (G : GR u ts hs ns mm) (p1 : Int32) (o : Nat) (f : Nat → Int64) : ∃ (kk : Int32) (f' : Nat → Int64) (w2 : kAd → va_W) (bb : Int32) (m' : MS), fX6_erase p1 mm = some (bb, m') ∧ KE (S := kAd) l yL_erase wsL_erase rL_erase g [.ref (D 0 0), .int p1, .ref o] (wOut g o f ++ wB g D R u ts bs ps hs ns) (some (.int kk)) (fun s => wOut g o f' ++ w2 s) 14 395 ∧ M_thrown m' = kk ∧ (kk = 0 → f' 0 = bb.toInt64) ∧ ∀ s, WB g D m' (w2 s) := by
  obtain ⟨ov, bb, m', c1, c2, c3⟩ := g_erase (g := g) (D := D) (R := R) (bs := bs) (ps := ps) G p1
  have hM := kX5_erase l hl9 g D R p1 u ts bs ps hs ns ov c1
  generalize obX5_erase g D R u ts bs ps hs ns ov = out at hM c3
  rcases out with ⟨E, w2⟩ | ⟨r, w2⟩
  · obtain ⟨k, hk, ht, hw⟩ := c3
    match k, hk, ht with
    | 0, hk, ht =>
      cases hk
      exact ⟨1, f, w2, bb, m', c2, kLt_erase_0 l g (D 0 0) o p1 _ _ rfl f w2 hM, ht, fun q => absurd q (by decide), hw⟩
    | k + 1, hk, _ => cases hk
  · obtain ⟨rfl, ht, hw⟩ := c3
    exact ⟨0, vp_updL f 0 bb.toInt64, w2, bb, m', c2, kLr_erase l g (D 0 0) o p1 _ _ rfl f bb w2 hM, ht, fun _ => if_pos rfl, hw⟩
theorem st_simplify (l : Launch) (hl9 : l.stackTraces = false) (g : kG) (D : Nat → Nat → Nat) (R : kAd) (u : ShS) (ts : TS) (bs : SS) (ps : PS) (hs : HS) (ns : NS) (mm : MS) (G : GR u ts hs ns mm) (p1 p2 : Int32) (o : Nat) (f : Nat → Int64) : ∃ (kk : Int32) (f' : Nat → Int64) (w2 : kAd → va_W) (bb : Int32) (m' : MS), fX6_simplify p1 p2 mm = some (bb, m') ∧ KE (S := kAd) l yL_simplify wsL_simplify rL_simplify g [.ref (D 0 0), .int p1, .int p2, .ref o] (wOut g o f ++ wB g D R u ts bs ps hs ns) (some (.int kk)) (fun s => wOut g o f' ++ w2 s) 15 401 ∧ M_thrown m' = kk ∧ (kk = 0 → f' 0 = bb.toInt64) ∧ ∀ s, WB g D m' (w2 s) := by
  obtain ⟨ov, bb, m', c1, c2, c3⟩ := g_simplify (g := g) (D := D) (R := R) (bs := bs) (ps := ps) G p1 p2
  have hM := kX5_simplify l hl9 g D R p1 p2 u ts bs ps hs ns ov c1
  generalize obX5_simplify g D R u ts bs ps hs ns ov = out at hM c3
  rcases out with ⟨E, w2⟩ | ⟨r, w2⟩
  · obtain ⟨k, hk, ht, hw⟩ := c3
    match k, hk, ht with
    | 0, hk, ht =>
      cases hk
      exact ⟨1, f, w2, bb, m', c2, kLt_simplify_0 l g (D 0 0) o p1 p2 _ _ rfl f w2 hM, ht, fun q => absurd q (by decide), hw⟩
    | 1, hk, ht =>
      cases hk
      exact ⟨2, f, w2, bb, m', c2, kLt_simplify_1 l g (D 0 0) o p1 p2 _ _ rfl f w2 hM, ht, fun q => absurd q (by decide), hw⟩
    | k + 2, hk, _ => cases hk
  · obtain ⟨rfl, ht, hw⟩ := c3
    exact ⟨0, vp_updL f 0 bb.toInt64, w2, bb, m', c2, kLr_simplify l g (D 0 0) o p1 p2 _ _ rfl f bb w2 hM, ht, fun _ => if_pos rfl, hw⟩
theorem st_bake (l : Launch) (hl9 : l.stackTraces = false) (g : kG) (D : Nat → Nat → Nat) (R : kAd) (u : ShS) (ts : TS) (bs : SS) (ps : PS) (hs : HS) (ns : NS) (mm : MS) (G : GR u ts hs ns mm) (p1 : Int32) (o : Nat) (f : Nat → Int64) : ∃ (kk : Int32) (f' : Nat → Int64) (w2 : kAd → va_W) (bb : Int32) (m' : MS), fX6_bake p1 mm = some (bb, m') ∧ KE (S := kAd) l yL_bake wsL_bake rL_bake g [.ref (D 0 0), .int p1, .ref o] (wOut g o f ++ wB g D R u ts bs ps hs ns) (some (.int kk)) (fun s => wOut g o f' ++ w2 s) 14 395 ∧ M_thrown m' = kk ∧ (kk = 0 → f' 0 = bb.toInt64) ∧ ∀ s, WB g D m' (w2 s) := by
  obtain ⟨ov, bb, m', c1, c2, c3⟩ := g_bake (g := g) (D := D) (R := R) (bs := bs) (ps := ps) G p1
  have hM := kX5_bake l hl9 g D R p1 u ts bs ps hs ns ov c1
  generalize obX5_bake g D R u ts bs ps hs ns ov = out at hM c3
  rcases out with ⟨E, w2⟩ | ⟨r, w2⟩
  · obtain ⟨k, hk, ht, hw⟩ := c3
    match k, hk, ht with
    | 0, hk, ht =>
      cases hk
      exact ⟨1, f, w2, bb, m', c2, kLt_bake_0 l g (D 0 0) o p1 _ _ rfl f w2 hM, ht, fun q => absurd q (by decide), hw⟩
    | k + 1, hk, _ => cases hk
  · obtain ⟨rfl, ht, hw⟩ := c3
    exact ⟨0, vp_updL f 0 bb.toInt64, w2, bb, m', c2, kLr_bake l g (D 0 0) o p1 _ _ rfl f bb w2 hM, ht, fun _ => if_pos rfl, hw⟩
theorem st_set (l : Launch) (hl9 : l.stackTraces = false) (g : kG) (D : Nat → Nat → Nat) (R : kAd) (u : ShS) (ts : TS) (bs : SS) (ps : PS) (hs : HS) (ns : NS) (mm : MS) (G : GR u ts hs ns mm) (p1 p2 : Int32) (o : Nat) (f : Nat → Int64) : ∃ (kk : Int32) (f' : Nat → Int64) (w2 : kAd → va_W) (bb : Int32) (m' : MS), fX6_set p1 p2 mm = some (bb, m') ∧ KE (S := kAd) l yL_set wsL_set rL_set g [.ref (D 0 0), .int p1, .int p2, .ref o] (wOut g o f ++ wB g D R u ts bs ps hs ns) (some (.int kk)) (fun s => wOut g o f' ++ w2 s) 15 401 ∧ M_thrown m' = kk ∧ (kk = 0 → f' 0 = bb.toInt64) ∧ ∀ s, WB g D m' (w2 s) := by
  obtain ⟨ov, bb, m', c1, c2, c3⟩ := g_set (g := g) (D := D) (R := R) (bs := bs) (ps := ps) G p1 p2
  have hM := kX5_set l hl9 g D R p1 p2 u ts bs ps hs ns ov c1
  generalize obX5_set g D R u ts bs ps hs ns ov = out at hM c3
  rcases out with ⟨E, w2⟩ | ⟨r, w2⟩
  · obtain ⟨k, hk, ht, hw⟩ := c3
    match k, hk, ht with
    | 0, hk, ht =>
      cases hk
      exact ⟨1, f, w2, bb, m', c2, kLt_set_0 l g (D 0 0) o p1 p2 _ _ rfl f w2 hM, ht, fun q => absurd q (by decide), hw⟩
    | 1, hk, ht =>
      cases hk
      exact ⟨2, f, w2, bb, m', c2, kLt_set_1 l g (D 0 0) o p1 p2 _ _ rfl f w2 hM, ht, fun q => absurd q (by decide), hw⟩
    | k + 2, hk, _ => cases hk
  · obtain ⟨rfl, ht, hw⟩ := c3
    exact ⟨0, vp_updL f 0 bb.toInt64, w2, bb, m', c2, kLr_set l g (D 0 0) o p1 p2 _ _ rfl f bb w2 hM, ht, fun _ => if_pos rfl, hw⟩
theorem st_append (l : Launch) (hl9 : l.stackTraces = false) (g : kG) (D : Nat → Nat → Nat) (R : kAd) (u : ShS) (ts : TS) (bs : SS) (ps : PS) (hs : HS) (ns : NS) (mm : MS) (G : GR u ts hs ns mm) (p1 : Int32) (o : Nat) (f : Nat → Int64) : ∃ (kk : Int32) (f' : Nat → Int64) (w2 : Unit → va_W) (bb : Int32) (m' : MS), fX6_append p1 mm = some (bb, m') ∧ KE (S := Unit) l yL_append wsL_append rL_append g [.ref (D 0 0), .int p1, .ref o] (wOut g o f ++ wB g D R u ts bs ps hs ns) (some (.int kk)) (fun s => wOut g o f' ++ w2 s) 2 12 ∧ M_thrown m' = kk ∧ (kk = 0 → f' 0 = bb.toInt64) ∧ ∀ s, WB g D m' (w2 s) := by
  obtain ⟨ov, bb, m', c1, c2, c3⟩ := g_append (g := g) (D := D) (R := R) (bs := bs) (ps := ps) G p1
  have hM := kX5_append l hl9 g D R p1 u ts bs ps hs ns ov c1
  generalize obX5_append g D R u ts bs ps hs ns ov = out at hM c3
  rcases out with ⟨E, w2⟩ | ⟨r, w2⟩
  · obtain ⟨k, hk, ht, hw⟩ := c3
    match k, hk, ht with
    | 0, hk, ht =>
      cases hk
      exact ⟨1, f, w2, bb, m', c2, kLt_append_0 l g (D 0 0) o p1 _ _ rfl f w2 hM, ht, fun q => absurd q (by decide), hw⟩
    | 1, hk, ht =>
      cases hk
      exact ⟨2, f, w2, bb, m', c2, kLt_append_1 l g (D 0 0) o p1 _ _ rfl f w2 hM, ht, fun q => absurd q (by decide), hw⟩
    | k + 2, hk, _ => cases hk
  · obtain ⟨rfl, ht, hw⟩ := c3
    exact ⟨0, vp_updL f 0 bb.toInt64, w2, bb, m', c2, kLr_append l g (D 0 0) o p1 _ _ rfl f bb w2 hM, ht, fun _ => if_pos rfl, hw⟩
theorem st_undo (l : Launch) (hl9 : l.stackTraces = false) (g : kG) (D : Nat → Nat → Nat) (R : kAd) (u : ShS) (ts : TS) (bs : SS) (ps : PS) (hs : HS) (ns : NS) (mm : MS) (G : GR u ts hs ns mm) (o : Nat) (f : Nat → Int64) : ∃ (kk : Int32) (f' : Nat → Int64) (w2 : Unit → va_W) (bb : Int32) (m' : MS), fX6_undo mm = some (bb, m') ∧ KE (S := Unit) l yL_undo wsL_undo rL_undo g [.ref (D 0 0), .ref o] (wOut g o f ++ wB g D R u ts bs ps hs ns) (some (.int kk)) (fun s => wOut g o f' ++ w2 s) 1 6 ∧ M_thrown m' = kk ∧ (kk = 0 → f' 0 = bb.toInt64) ∧ ∀ s, WB g D m' (w2 s) := by
  obtain ⟨ov, bb, m', c1, c2, c3⟩ := g_undo (g := g) (D := D) (R := R) (bs := bs) (ps := ps) G 
  have hM := kX5_undo l hl9 g D R u ts bs ps hs ns ov c1
  generalize obX5_undo g D R u ts bs ps hs ns ov = out at hM c3
  rcases out with ⟨E, w2⟩ | ⟨r, w2⟩
  · obtain ⟨k, hk, ht, hw⟩ := c3
    match k, hk, ht with
    | 0, hk, ht =>
      cases hk
      exact ⟨1, f, w2, bb, m', c2, kLt_undo_0 l g (D 0 0) o _ _ rfl f w2 hM, ht, fun q => absurd q (by decide), hw⟩
    | k + 1, hk, _ => cases hk
  · obtain ⟨rfl, ht, hw⟩ := c3
    exact ⟨0, vp_updL f 0 bb.toInt64, w2, bb, m', c2, kLr_undo l g (D 0 0) o _ _ rfl f bb w2 hM, ht, fun _ => if_pos rfl, hw⟩
theorem st_keep (l : Launch) (hl9 : l.stackTraces = false) (g : kG) (D : Nat → Nat → Nat) (R : kAd) (u : ShS) (ts : TS) (bs : SS) (ps : PS) (hs : HS) (ns : NS) (mm : MS) (G : GR u ts hs ns mm) (p1 : Int32) (o : Nat) (f : Nat → Int64) : ∃ (kk : Int32) (f' : Nat → Int64) (w2 : kAd → va_W) (bb : Int32) (m' : MS), fX6_keep p1 mm = some (bb, m') ∧ KE (S := kAd) l yL_keep wsL_keep rL_keep g [.ref (D 0 0), .int p1, .ref o] (wOut g o f ++ wB g D R u ts bs ps hs ns) (some (.int kk)) (fun s => wOut g o f' ++ w2 s) 13 389 ∧ M_thrown m' = kk ∧ (kk = 0 → f' 0 = bb.toInt64) ∧ ∀ s, WB g D m' (w2 s) := by
  obtain ⟨ov, bb, m', c1, c2, c3⟩ := g_keep (g := g) (D := D) (R := R) (bs := bs) (ps := ps) G p1
  have hM := kX5_keep l hl9 g D R p1 u ts bs ps hs ns ov c1
  generalize obX5_keep g D R u ts bs ps hs ns ov = out at hM c3
  rcases out with ⟨E, w2⟩ | ⟨r, w2⟩
  · obtain ⟨k, hk, ht, hw⟩ := c3
    match k, hk, ht with
    | 0, hk, ht =>
      cases hk
      exact ⟨1, f, w2, bb, m', c2, kLt_keep_0 l g (D 0 0) o p1 _ _ rfl f w2 hM, ht, fun q => absurd q (by decide), hw⟩
    | k + 1, hk, _ => cases hk
  · obtain ⟨rfl, ht, hw⟩ := c3
    exact ⟨0, vp_updL f 0 bb.toInt64, w2, bb, m', c2, kLr_keep l g (D 0 0) o p1 _ _ rfl f bb w2 hM, ht, fun _ => if_pos rfl, hw⟩
theorem st_goBack (l : Launch) (hl9 : l.stackTraces = false) (g : kG) (D : Nat → Nat → Nat) (R : kAd) (u : ShS) (ts : TS) (bs : SS) (ps : PS) (hs : HS) (ns : NS) (mm : MS) (G : GR u ts hs ns mm) (p1 : Int32) (o : Nat) (f : Nat → Int64) : ∃ (kk : Int32) (f' : Nat → Int64) (w2 : kAd → va_W) (bb : Int32) (m' : MS), fX6_goBack p1 mm = some (bb, m') ∧ KE (S := kAd) l yL_goBack wsL_goBack rL_goBack g [.ref (D 0 0), .int p1, .ref o] (wOut g o f ++ wB g D R u ts bs ps hs ns) (some (.int kk)) (fun s => wOut g o f' ++ w2 s) 14 395 ∧ M_thrown m' = kk ∧ (kk = 0 → f' 0 = bb.toInt64) ∧ ∀ s, WB g D m' (w2 s) := by
  obtain ⟨ov, bb, m', c1, c2, c3⟩ := g_goBack (g := g) (D := D) (R := R) (bs := bs) (ps := ps) G p1
  have hM := kX5_goBack l hl9 g D R p1 u ts bs ps hs ns ov c1
  generalize obX5_goBack g D R u ts bs ps hs ns ov = out at hM c3
  rcases out with ⟨E, w2⟩ | ⟨r, w2⟩
  · obtain ⟨k, hk, ht, hw⟩ := c3
    match k, hk, ht with
    | 0, hk, ht =>
      cases hk
      exact ⟨1, f, w2, bb, m', c2, kLt_goBack_0 l g (D 0 0) o p1 _ _ rfl f w2 hM, ht, fun q => absurd q (by decide), hw⟩
    | 1, hk, ht =>
      cases hk
      exact ⟨2, f, w2, bb, m', c2, kLt_goBack_1 l g (D 0 0) o p1 _ _ rfl f w2 hM, ht, fun q => absurd q (by decide), hw⟩
    | k + 2, hk, _ => cases hk
  · obtain ⟨rfl, ht, hw⟩ := c3
    exact ⟨0, vp_updL f 0 bb.toInt64, w2, bb, m', c2, kLr_goBack l g (D 0 0) o p1 _ _ rfl f bb w2 hM, ht, fun _ => if_pos rfl, hw⟩
theorem st_point (l : Launch) (hl9 : l.stackTraces = false) (g : kG) (D : Nat → Nat → Nat) (R : kAd) (u : ShS) (ts : TS) (bs : SS) (ps : PS) (hs : HS) (ns : NS) (mm : MS) (G : GR u ts hs ns mm) (p1 p2 p3 : Int32) (o : Nat) (f : Nat → Int64) : ∃ (kk : Int32) (f' : Nat → Int64) (w2 : Unit → va_W) (bb : Int32) (m' : MS), fX6_point p1 p2 p3 mm = some (bb, m') ∧ KE (S := Unit) l yL_point wsL_point rL_point g [.ref (D 0 0), .int p1, .int p2, .int p3, .ref o] (wOut g o f ++ wB g D R u ts bs ps hs ns) (some (.int kk)) (fun s => wOut g o f' ++ w2 s) 3 18 ∧ M_thrown m' = kk ∧ (kk = 0 → f' 0 = bb.toInt64) ∧ ∀ s, WB g D m' (w2 s) := by
  obtain ⟨ov, bb, m', c1, c2, c3⟩ := g_point (g := g) (D := D) (R := R) (bs := bs) (ps := ps) G p1 p2 p3
  have hM := kX5_point l hl9 g D R p1 p2 p3 u ts bs ps hs ns ov c1
  generalize obX5_point g D R u ts bs ps hs ns ov = out at hM c3
  rcases out with ⟨E, w2⟩ | ⟨r, w2⟩
  · obtain ⟨k, hk, ht, hw⟩ := c3
    match k, hk, ht with
    | 0, hk, ht =>
      cases hk
      exact ⟨1, f, w2, bb, m', c2, kLt_point_0 l g (D 0 0) o p1 p2 p3 _ _ rfl f w2 hM, ht, fun q => absurd q (by decide), hw⟩
    | 1, hk, ht =>
      cases hk
      exact ⟨2, f, w2, bb, m', c2, kLt_point_1 l g (D 0 0) o p1 p2 p3 _ _ rfl f w2 hM, ht, fun q => absurd q (by decide), hw⟩
    | k + 2, hk, _ => cases hk
  · obtain ⟨rfl, ht, hw⟩ := c3
    exact ⟨0, vp_updL f 0 bb.toInt64, w2, bb, m', c2, kLr_point l g (D 0 0) o p1 p2 p3 _ _ rfl f bb w2 hM, ht, fun _ => if_pos rfl, hw⟩
theorem st_strokeOf (l : Launch) (hl9 : l.stackTraces = false) (g : kG) (D : Nat → Nat → Nat) (R : kAd) (u : ShS) (ts : TS) (bs : SS) (ps : PS) (hs : HS) (ns : NS) (mm : MS) (G : GR u ts hs ns mm) (p1 p2 : Int32) (o : Nat) (f : Nat → Int64) : ∃ (kk : Int32) (f' : Nat → Int64) (w2 : Unit → va_W) (bb : Int32) (m' : MS), fX6_strokeOf p1 p2 mm = some (bb, m') ∧ KE (S := Unit) l yL_strokeOf wsL_strokeOf rL_strokeOf g [.ref (D 0 0), .int p1, .int p2, .ref o] (wOut g o f ++ wB g D R u ts bs ps hs ns) (some (.int kk)) (fun s => wOut g o f' ++ w2 s) 2 12 ∧ M_thrown m' = kk ∧ (kk = 0 → f' 0 = bb.toInt64) ∧ ∀ s, WB g D m' (w2 s) := by
  obtain ⟨ov, bb, m', c1, c2, c3⟩ := g_strokeOf (g := g) (D := D) (R := R) (bs := bs) (ps := ps) G p1 p2
  have hM := kX5_strokeOf l hl9 g D R p1 p2 u ts bs ps hs ns ov c1
  generalize obX5_strokeOf g D R u ts bs ps hs ns ov = out at hM c3
  rcases out with ⟨E, w2⟩ | ⟨r, w2⟩
  · obtain ⟨k, hk, ht, hw⟩ := c3
    match k, hk, ht with
    | 0, hk, ht =>
      cases hk
      exact ⟨1, f, w2, bb, m', c2, kLt_strokeOf_0 l g (D 0 0) o p1 p2 _ _ rfl f w2 hM, ht, fun q => absurd q (by decide), hw⟩
    | 1, hk, ht =>
      cases hk
      exact ⟨2, f, w2, bb, m', c2, kLt_strokeOf_1 l g (D 0 0) o p1 p2 _ _ rfl f w2 hM, ht, fun q => absurd q (by decide), hw⟩
    | k + 2, hk, _ => cases hk
  · obtain ⟨rfl, ht, hw⟩ := c3
    exact ⟨0, vp_updL f 0 bb.toInt64, w2, bb, m', c2, kLr_strokeOf l g (D 0 0) o p1 p2 _ _ rfl f bb w2 hM, ht, fun _ => if_pos rfl, hw⟩
theorem st_distance (l : Launch) (hl9 : l.stackTraces = false) (g : kG) (D : Nat → Nat → Nat) (R : kAd) (u : ShS) (ts : TS) (bs : SS) (ps : PS) (hs : HS) (ns : NS) (mm : MS) (G : GR u ts hs ns mm) (p1 p2 p3 p4 : Int32) (o : Nat) (f : Nat → Int64) : ∃ (kk : Int32) (f' : Nat → Int64) (w2 : Unit → va_W) (bb : Int32) (m' : MS), fX6_distance p1 p2 p3 p4 mm = some (bb, m') ∧ KE (S := Unit) l yL_distance wsL_distance rL_distance g [.ref (D 0 0), .int p1, .int p2, .int p3, .int p4, .ref o] (wOut g o f ++ wB g D R u ts bs ps hs ns) (some (.int kk)) (fun s => wOut g o f' ++ w2 s) 4 24 ∧ M_thrown m' = kk ∧ (kk = 0 → f' 0 = bb.toInt64) ∧ ∀ s, WB g D m' (w2 s) := by
  obtain ⟨ov, bb, m', c1, c2, c3⟩ := g_distance (g := g) (D := D) (R := R) (bs := bs) (ps := ps) G p1 p2 p3 p4
  have hM := kX5_distance l hl9 g D R p1 p2 p3 p4 u ts bs ps hs ns ov c1
  generalize obX5_distance g D R u ts bs ps hs ns ov = out at hM c3
  rcases out with ⟨E, w2⟩ | ⟨r, w2⟩
  · obtain ⟨k, hk, ht, hw⟩ := c3
    match k, hk, ht with
    | 0, hk, ht =>
      cases hk
      exact ⟨1, f, w2, bb, m', c2, kLt_distance_0 l g (D 0 0) o p1 p2 p3 p4 _ _ rfl f w2 hM, ht, fun q => absurd q (by decide), hw⟩
    | k + 1, hk, _ => cases hk
  · obtain ⟨rfl, ht, hw⟩ := c3
    exact ⟨0, vp_updL f 0 bb.toInt64, w2, bb, m', c2, kLr_distance l g (D 0 0) o p1 p2 p3 p4 _ _ rfl f bb w2 hM, ht, fun _ => if_pos rfl, hw⟩
theorem st_crossings (l : Launch) (hl9 : l.stackTraces = false) (g : kG) (D : Nat → Nat → Nat) (R : kAd) (u : ShS) (ts : TS) (bs : SS) (ps : PS) (hs : HS) (ns : NS) (mm : MS) (G : GR u ts hs ns mm) (p1 : Int32) (o : Nat) (f : Nat → Int64) : ∃ (kk : Int32) (f' : Nat → Int64) (w2 : Unit → va_W) (bb : Int32) (m' : MS), fX6_crossings p1 mm = some (bb, m') ∧ KE (S := Unit) l yL_crossings wsL_crossings rL_crossings g [.ref (D 0 0), .int p1, .ref o] (wOut g o f ++ wB g D R u ts bs ps hs ns) (some (.int kk)) (fun s => wOut g o f' ++ w2 s) 1 6 ∧ M_thrown m' = kk ∧ (kk = 0 → f' 0 = bb.toInt64) ∧ ∀ s, WB g D m' (w2 s) := by
  obtain ⟨ov, bb, m', c1, c2, c3⟩ := g_crossings (g := g) (D := D) (R := R) (bs := bs) (ps := ps) G p1
  have hM := kX5_crossings l hl9 g D R p1 u ts bs ps hs ns ov c1
  generalize obX5_crossings g D R u ts bs ps hs ns ov = out at hM c3
  rcases out with ⟨E, w2⟩ | ⟨r, w2⟩
  · obtain ⟨k, hk, ht, hw⟩ := c3
    match k, hk, ht with
    | 0, hk, ht =>
      cases hk
      exact ⟨1, f, w2, bb, m', c2, kLt_crossings_0 l g (D 0 0) o p1 _ _ rfl f w2 hM, ht, fun q => absurd q (by decide), hw⟩
    | k + 1, hk, _ => cases hk
  · obtain ⟨rfl, ht, hw⟩ := c3
    exact ⟨0, vp_updL f 0 bb.toInt64, w2, bb, m', c2, kLr_crossings l g (D 0 0) o p1 _ _ rfl f bb w2 hM, ht, fun _ => if_pos rfl, hw⟩
theorem st_count (l : Launch) (hl9 : l.stackTraces = false) (g : kG) (D : Nat → Nat → Nat) (R : kAd) (u : ShS) (ts : TS) (bs : SS) (ps : PS) (hs : HS) (ns : NS) (mm : MS) (G : GR u ts hs ns mm) (p1 : Int32) (o : Nat) (f : Nat → Int64) : ∃ (kk : Int32) (f' : Nat → Int64) (w2 : Unit → va_W) (bb : Int32) (m' : MS), fX6_count p1 mm = some (bb, m') ∧ KE (S := Unit) l yL_count wsL_count rL_count g [.ref (D 0 0), .int p1, .ref o] (wOut g o f ++ wB g D R u ts bs ps hs ns) (some (.int kk)) (fun s => wOut g o f' ++ w2 s) 1 6 ∧ M_thrown m' = kk ∧ (kk = 0 → f' 0 = bb.toInt64) ∧ ∀ s, WB g D m' (w2 s) := by
  obtain ⟨ov, bb, m', c1, c2, c3⟩ := g_count (g := g) (D := D) (R := R) (bs := bs) (ps := ps) G p1
  have hM := kX5_count l hl9 g D R p1 u ts bs ps hs ns ov c1
  generalize obX5_count g D R u ts bs ps hs ns ov = out at hM c3
  rcases out with ⟨E, w2⟩ | ⟨r, w2⟩
  · obtain ⟨k, hk, ht, hw⟩ := c3
    match k, hk, ht with
    | 0, hk, ht =>
      cases hk
      exact ⟨1, f, w2, bb, m', c2, kLt_count_0 l g (D 0 0) o p1 _ _ rfl f w2 hM, ht, fun q => absurd q (by decide), hw⟩
    | k + 1, hk, _ => cases hk
  · obtain ⟨rfl, ht, hw⟩ := c3
    exact ⟨0, vp_updL f 0 bb.toInt64, w2, bb, m', c2, kLr_count l g (D 0 0) o p1 _ _ rfl f bb w2 hM, ht, fun _ => if_pos rfl, hw⟩
theorem st_setting (l : Launch) (hl9 : l.stackTraces = false) (g : kG) (D : Nat → Nat → Nat) (R : kAd) (u : ShS) (ts : TS) (bs : SS) (ps : PS) (hs : HS) (ns : NS) (mm : MS) (G : GR u ts hs ns mm) (p1 : Int32) (o : Nat) (f : Nat → Int64) : ∃ (kk : Int32) (f' : Nat → Int64) (w2 : Unit → va_W) (bb : Int32) (m' : MS), fX6_setting p1 mm = some (bb, m') ∧ KE (S := Unit) l yL_setting wsL_setting rL_setting g [.ref (D 0 0), .int p1, .ref o] (wOut g o f ++ wB g D R u ts bs ps hs ns) (some (.int kk)) (fun s => wOut g o f' ++ w2 s) 1 6 ∧ M_thrown m' = kk ∧ (kk = 0 → f' 0 = bb.toInt64) ∧ ∀ s, WB g D m' (w2 s) := by
  obtain ⟨ov, bb, m', c1, c2, c3⟩ := g_setting (g := g) (D := D) (R := R) (bs := bs) (ps := ps) G p1
  have hM := kX5_setting l hl9 g D R p1 u ts bs ps hs ns ov c1
  generalize obX5_setting g D R u ts bs ps hs ns ov = out at hM c3
  rcases out with ⟨E, w2⟩ | ⟨r, w2⟩
  · obtain ⟨k, hk, ht, hw⟩ := c3
    match k, hk, ht with
    | 0, hk, ht =>
      cases hk
      exact ⟨1, f, w2, bb, m', c2, kLt_setting_0 l g (D 0 0) o p1 _ _ rfl f w2 hM, ht, fun q => absurd q (by decide), hw⟩
    | k + 1, hk, _ => cases hk
  · obtain ⟨rfl, ht, hw⟩ := c3
    exact ⟨0, vp_updL f 0 bb.toInt64, w2, bb, m', c2, kLr_setting l g (D 0 0) o p1 _ _ rfl f bb w2 hM, ht, fun _ => if_pos rfl, hw⟩
theorem st_nearest (l : Launch) (hl9 : l.stackTraces = false) (g : kG) (D : Nat → Nat → Nat) (R : kAd) (u : ShS) (ts : TS) (bs : SS) (ps : PS) (hs : HS) (ns : NS) (mm : MS) (G : GR u ts hs ns mm) (p1 p2 : Int32) (o : Nat) (f : Nat → Int64) : ∃ (kk : Int32) (f' : Nat → Int64) (w2 : Unit → va_W) (bb : Int32) (m' : MS), fX6_nearest p1 p2 mm = some (bb, m') ∧ KE (S := Unit) l yL_nearest wsL_nearest rL_nearest g [.ref (D 0 0), .int p1, .int p2, .ref o] (wOut g o f ++ wB g D R u ts bs ps hs ns) (some (.int kk)) (fun s => wOut g o f' ++ w2 s) 2 12 ∧ M_thrown m' = kk ∧ (kk = 0 → f' 0 = bb.toInt64) ∧ ∀ s, WB g D m' (w2 s) := by
  obtain ⟨ov, bb, m', c1, c2, c3⟩ := g_nearest (g := g) (D := D) (R := R) (bs := bs) (ps := ps) G p1 p2
  have hM := kX5_nearest l hl9 g D R p1 p2 u ts bs ps hs ns ov c1
  generalize obX5_nearest g D R u ts bs ps hs ns ov = out at hM c3
  rcases out with ⟨E, w2⟩ | ⟨r, w2⟩
  · obtain ⟨k, hk, ht, hw⟩ := c3
    match k, hk, ht with
    | 0, hk, ht =>
      cases hk
      exact ⟨1, f, w2, bb, m', c2, kLt_nearest_0 l g (D 0 0) o p1 p2 _ _ rfl f w2 hM, ht, fun q => absurd q (by decide), hw⟩
    | k + 1, hk, _ => cases hk
  · obtain ⟨rfl, ht, hw⟩ := c3
    exact ⟨0, vp_updL f 0 bb.toInt64, w2, bb, m', c2, kLr_nearest l g (D 0 0) o p1 p2 _ _ rfl f bb w2 hM, ht, fun _ => if_pos rfl, hw⟩
theorem st_ifSimplified (l : Launch) (hl9 : l.stackTraces = false) (g : kG) (D : Nat → Nat → Nat) (R : kAd) (u : ShS) (ts : TS) (bs : SS) (ps : PS) (hs : HS) (ns : NS) (mm : MS) (G : GR u ts hs ns mm) (p1 p2 p3 : Int32) (o : Nat) (f : Nat → Int64) : ∃ (kk : Int32) (f' : Nat → Int64) (w2 : Unit → va_W) (bb : Int32) (m' : MS), fX6_ifSimplified p1 p2 p3 mm = some (bb, m') ∧ KE (S := Unit) l yL_ifSimplified wsL_ifSimplified rL_ifSimplified g [.ref (D 0 0), .int p1, .int p2, .int p3, .ref o] (wOut g o f ++ wB g D R u ts bs ps hs ns) (some (.int kk)) (fun s => wOut g o f' ++ w2 s) 3 18 ∧ M_thrown m' = kk ∧ (kk = 0 → f' 0 = bb.toInt64) ∧ ∀ s, WB g D m' (w2 s) := by
  obtain ⟨ov, bb, m', c1, c2, c3⟩ := g_ifSimplified (g := g) (D := D) (R := R) (bs := bs) (ps := ps) G p1 p2 p3
  have hM := kX5_ifSimplified l hl9 g D R p1 p2 p3 u ts bs ps hs ns ov c1
  generalize obX5_ifSimplified g D R u ts bs ps hs ns ov = out at hM c3
  rcases out with ⟨E, w2⟩ | ⟨r, w2⟩
  · obtain ⟨k, hk, ht, hw⟩ := c3
    match k, hk, ht with
    | 0, hk, ht =>
      cases hk
      exact ⟨1, f, w2, bb, m', c2, kLt_ifSimplified_0 l g (D 0 0) o p1 p2 p3 _ _ rfl f w2 hM, ht, fun q => absurd q (by decide), hw⟩
    | 1, hk, ht =>
      cases hk
      exact ⟨2, f, w2, bb, m', c2, kLt_ifSimplified_1 l g (D 0 0) o p1 p2 p3 _ _ rfl f w2 hM, ht, fun q => absurd q (by decide), hw⟩
    | k + 2, hk, _ => cases hk
  · obtain ⟨rfl, ht, hw⟩ := c3
    exact ⟨0, vp_updL f 0 bb.toInt64, w2, bb, m', c2, kLr_ifSimplified l g (D 0 0) o p1 p2 p3 _ _ rfl f bb w2 hM, ht, fun _ => if_pos rfl, hw⟩
theorem st_leastBound (l : Launch) (hl9 : l.stackTraces = false) (g : kG) (D : Nat → Nat → Nat) (R : kAd) (u : ShS) (ts : TS) (bs : SS) (ps : PS) (hs : HS) (ns : NS) (mm : MS) (G : GR u ts hs ns mm) (p1 p2 p3 : Int32) (o : Nat) (f : Nat → Int64) : ∃ (kk : Int32) (f' : Nat → Int64) (w2 : Unit → va_W) (bb : Int32) (m' : MS), fX6_leastBound p1 p2 p3 mm = some (bb, m') ∧ KE (S := Unit) l yL_leastBound wsL_leastBound rL_leastBound g [.ref (D 0 0), .int p1, .int p2, .int p3, .ref o] (wOut g o f ++ wB g D R u ts bs ps hs ns) (some (.int kk)) (fun s => wOut g o f' ++ w2 s) 3 18 ∧ M_thrown m' = kk ∧ (kk = 0 → f' 0 = bb.toInt64) ∧ ∀ s, WB g D m' (w2 s) := by
  obtain ⟨ov, bb, m', c1, c2, c3⟩ := g_leastBound (g := g) (D := D) (R := R) (bs := bs) (ps := ps) G p1 p2 p3
  have hM := kX5_leastBound l hl9 g D R p1 p2 p3 u ts bs ps hs ns ov c1
  generalize obX5_leastBound g D R u ts bs ps hs ns ov = out at hM c3
  rcases out with ⟨E, w2⟩ | ⟨r, w2⟩
  · obtain ⟨k, hk, ht, hw⟩ := c3
    match k, hk, ht with
    | 0, hk, ht =>
      cases hk
      exact ⟨1, f, w2, bb, m', c2, kLt_leastBound_0 l g (D 0 0) o p1 p2 p3 _ _ rfl f w2 hM, ht, fun q => absurd q (by decide), hw⟩
    | 1, hk, ht =>
      cases hk
      exact ⟨2, f, w2, bb, m', c2, kLt_leastBound_1 l g (D 0 0) o p1 p2 p3 _ _ rfl f w2 hM, ht, fun q => absurd q (by decide), hw⟩
    | k + 2, hk, _ => cases hk
  · obtain ⟨rfl, ht, hw⟩ := c3
    exact ⟨0, vp_updL f 0 bb.toInt64, w2, bb, m', c2, kLr_leastBound l g (D 0 0) o p1 p2 p3 _ _ rfl f bb w2 hM, ht, fun _ => if_pos rfl, hw⟩
