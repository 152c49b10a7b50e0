/-! ===== the abstract state, and the class's cells that hold it ===== -/
/-- source, from, by, length or row, acts -/
abbrev sP : Type := Int32 × Int64 × Int64 × Int32 × List sA
/-- rows' kinds, lengths, cells; pipes; phases; the latest value; (runs, faulty, spent, cells of the well ended); the latest run's (cells, asks, works, got) -/
abbrev sS : Type := (Nat → Int32) × (Nat → Int32) × (Nat → Nat → Int64) × (Nat → sP) × List Int32 × Int64 × (Nat × Nat × Nat × Nat) × (Nat × Nat × Nat × Nat)
def pipeAt (G : gS) (a : Nat) (p : sP) : Prop := pAt G a p.2.2.2.2 ∧ gi G a 2 = p.1 ∧ gl G a 3 = p.2.1 ∧ gl G a 4 = p.2.2.1 ∧ (p.1 = 0 → gi G a 5 = p.2.2.2.1) ∧ (p.1 = 1 → gi G a 6 = p.2.2.2.1)
def rowAt (G : gS) (a : Nat) (k n : Int32) (f : Nat → Int64) : Prop := shRow G a ∧ gi G a 1 = k ∧ gi G a 2 = n ∧ ∀ j, j < 16 → gl G (a + 1) j = f j
def topAt (G : gS) (X : Nat) : Prop := gsh G X = (1, 5, 0) ∧ gr G X 0 = some (X + 1) ∧ gr G X 1 = some (X + 14) ∧ gr G X 2 = some (X + 143) ∧ gr G X 3 = some (X + 144) ∧ gsh G (X + 1) = (2, 5, 6) ∧ gsh G (X + 14) = (2, 4, 4) ∧ gsh G (X + 143) = (2, 0, 8) ∧ (∀ r, r < 6 → gr G (X + 1) r = some (X + 2 + 2 * r)) ∧ ∀ p, p < 4 → gr G (X + 14) p = some (X + 15 + 32 * p)
def phAt (G : gS) (X : Nat) (ph : List Int32) : Prop := gi G X 4 = nI ph.length ∧ ph.length ≤ 8 ∧ ∀ i r, ph[i]? = some r → gi G (X + 143) i = r
def bkAt (G : gS) (X : Nat) (lv : Int64) (bk : Nat × Nat × Nat × Nat) : Prop := gi G X 5 = nI bk.1 ∧ gi G X 6 = nI bk.2.1 ∧ gi G X 7 = nI bk.2.2.1 ∧ bk.2.1 + bk.2.2.1 ≤ bk.1 ∧ gi G X 8 = nI (bk.1 - bk.2.1 - bk.2.2.1) ∧ gi G X 9 = nI bk.2.2.2 ∧ gl G X 10 = lv
/-- the cells of the run and its elements, without the changing reference to the pipe -/
def runS (G : gS) (X : Nat) : Prop := gsh G (X + 144) = (1, 4, 0) ∧ gr G (X + 144) 0 = some (X + 151) ∧ gr G (X + 144) 5 = some (X + 1) ∧ gr G (X + 144) 6 = some (X + 145) ∧ gr G (X + 144) 7 = some (X + 146) ∧ gr G (X + 144) 8 = some (X + 147) ∧ gr G (X + 144) 9 = some (X + 148) ∧ gr G (X + 144) 10 = some (X + 149) ∧ gr G (X + 144) 11 = some (X + 150) ∧ gsh G (X + 145) = (2, 0, 11) ∧ gsh G (X + 146) = (2, 2, 11) ∧ gsh G (X + 147) = (2, 0, 11) ∧ gsh G (X + 148) = (2, 0, 11) ∧ gsh G (X + 149) = (2, 0, 400) ∧ gsh G (X + 150) = (2, 0, 400) ∧
  gsh G (X + 151) = (1, 1, 0) ∧ gr G (X + 151) 0 = some (X + 1) ∧ gr G (X + 151) 1 = some (X + 152) ∧ gr G (X + 151) 2 = some (X + 153) ∧ gr G (X + 151) 3 = some (X + 154) ∧ gr G (X + 151) 4 = some (X + 155) ∧ gr G (X + 151) 5 = some (X + 156) ∧ gr G (X + 151) 6 = some (X + 157) ∧ gsh G (X + 152) = (2, 0, 400) ∧ gsh G (X + 153) = (2, 1, 400) ∧ gsh G (X + 154) = (2, 3, 400) ∧ gsh G (X + 155) = (2, 0, 400) ∧ gsh G (X + 156) = (2, 0, 400) ∧ gsh G (X + 157) = (2, 0, 400)
def runAt (G : gS) (X : Nat) (la : Nat × Nat × Nat × Nat) : Prop := runS G X ∧ gi G (X + 144) 1 = nI la.1 ∧ gi G (X + 144) 2 = nI la.2.1 ∧ gi G (X + 151) 8 = nI la.2.2.1 ∧ gi G (X + 144) 3 = nI la.2.2.2
def WC (X : Nat) (S : sS) (G : gS) : Prop := topAt G X ∧ (∀ r, r < 6 → rowAt G (X + 2 + 2 * r) (S.1 r) (S.2.1 r) (S.2.2.1 r)) ∧ (∀ p, p < 4 → pipeAt G (X + 15 + 32 * p) (S.2.2.2.1 p)) ∧ phAt G X S.2.2.2.2.1 ∧ bkAt G X S.2.2.2.2.2.1 S.2.2.2.2.2.2.1 ∧ runAt G X S.2.2.2.2.2.2.2
def clsC (X : Nat) : Nat → Prop := fun q => X ≤ q ∧ q < X + 158
theorem shRow.fr {P : Nat → Prop} {G G' : gS} {a : Nat} (h : shRow G a) (hf : frm P G G') (h0 : ¬ P a) : shRow G' a := ⟨by rw [hf.2.1]; exact h.1, by rw [hf.r h0]; exact h.2.1, by rw [hf.2.1]; exact h.2.2⟩
theorem rowAt.fr {P : Nat → Prop} {G G' : gS} {a : Nat} {k n : Int32} {f : Nat → Int64} (h : rowAt G a k n f) (hf : frm P G G') (h0 : ¬ P a) (h1 : ¬ P (a + 1)) : rowAt G' a k n f := ⟨h.1.fr hf h0, by rw [hf.i h0]; exact h.2.1, by rw [hf.i h0]; exact h.2.2.1, fun j hj => by rw [hf.l h1]; exact h.2.2.2 j hj⟩
theorem pipeAt.fr {P : Nat → Prop} {G G' : gS} {a : Nat} {p : sP} (h : pipeAt G a p) (hf : frm P G G') (hP : ∀ q, a ≤ q → q < a + 32 → ¬ P q) : pipeAt G' a p := by
  have h0 := hP a (by omega) (by omega)
  exact ⟨h.1.fr hf hP, by rw [hf.i h0]; exact h.2.1, by rw [hf.l h0]; exact h.2.2.1, by rw [hf.l h0]; exact h.2.2.2.1, fun z => by rw [hf.i h0]; exact h.2.2.2.2.1 z, fun z => by rw [hf.i h0]; exact h.2.2.2.2.2 z⟩
theorem topAt.fr {P : Nat → Prop} {G G' : gS} {X : Nat} (h : topAt G X) (hf : frm P G G') (h0 : ∀ k, gr G' X k = gr G X k) (h1 : ¬ P (X + 1)) (h14 : ¬ P (X + 14)) : topAt G' X := by
  obtain ⟨a1, a2, a3, a4, a5, a6, a7, a8, a9, a10⟩ := h
  exact ⟨by rw [hf.2.1]; exact a1, by rw [h0]; exact a2, by rw [h0]; exact a3, by rw [h0]; exact a4, by rw [h0]; exact a5, by rw [hf.2.1]; exact a6, by rw [hf.2.1]; exact a7, by rw [hf.2.1]; exact a8, fun r hr => by rw [hf.r h1]; exact a9 r hr, fun p hp => by rw [hf.r h14]; exact a10 p hp⟩
theorem phAt.fr {P : Nat → Prop} {G G' : gS} {X : Nat} {ph : List Int32} (h : phAt G X ph) (hf : frm P G G') (h0 : gi G' X 4 = gi G X 4) (h1 : ¬ P (X + 143)) : phAt G' X ph := ⟨by rw [h0]; exact h.1, h.2.1, fun i r hr => by rw [hf.i h1]; exact h.2.2 i r hr⟩
theorem bkAt.fr {G G' : gS} {X : Nat} {lv : Int64} {bk : Nat × Nat × Nat × Nat} (h : bkAt G X lv bk) (hi : ∀ k, 5 ≤ k → gi G' X k = gi G X k) (hl : gl G' X 10 = gl G X 10) : bkAt G' X lv bk := by
  obtain ⟨a1, a2, a3, a4, a5, a6, a7⟩ := h
  exact ⟨by rw [hi 5 (by decide)]; exact a1, by rw [hi 6 (by decide)]; exact a2, by rw [hi 7 (by decide)]; exact a3, a4, by rw [hi 8 (by decide)]; exact a5, by rw [hi 9 (by decide)]; exact a6, by rw [hl]; exact a7⟩
theorem runS.fr {G G' : gS} {X : Nat} (h : runS G X) (hs : ∀ q, gsh G' q = gsh G q) (hr : ∀ k, k ≠ 13 → gr G' (X + 144) k = gr G (X + 144) k) (hr2 : ∀ k, gr G' (X + 151) k = gr G (X + 151) k) : runS G' X := by
  unfold runS at h ⊢
  simp only [hs, hr2, hr 0 (by decide), hr 5 (by decide), hr 6 (by decide), hr 7 (by decide), hr 8 (by decide), hr 9 (by decide), hr 10 (by decide), hr 11 (by decide)]
  exact h
theorem runAt.fr {P : Nat → Prop} {G G' : gS} {X : Nat} {la : Nat × Nat × Nat × Nat} (h : runAt G X la) (hf : frm P G G') (h0 : ¬ P (X + 144)) (h1 : ¬ P (X + 151)) : runAt G' X la :=
  ⟨h.1.fr hf.2.1 (fun k _ => hf.r h0) (fun k => hf.r h1), by rw [hf.i h0]; exact h.2.1, by rw [hf.i h0]; exact h.2.2.1, by rw [hf.i h1]; exact h.2.2.2.1, by rw [hf.i h0]; exact h.2.2.2.2⟩
theorem WC.fr {P : Nat → Prop} {G G' : gS} {X : Nat} {S : sS} (h : WC X S G) (hf : frm P G G') (hP : ∀ q, X ≤ q → q < X + 158 → ¬ P q) : WC X S G' := by
  obtain ⟨h1, h2, h3, h4, h5, h6⟩ := h
  have h0 := hP X (by omega) (by omega)
  exact ⟨h1.fr hf (fun k => hf.r h0) (hP _ (by omega) (by omega)) (hP _ (by omega) (by omega)), fun r hr => (h2 r hr).fr hf (hP _ (by omega) (by omega)) (hP _ (by omega) (by omega)), fun p hp => (h3 p hp).fr hf (fun q z1 z2 => hP _ (by omega) (by omega)), h4.fr hf (hf.i h0) (hP _ (by omega) (by omega)), h5.fr (fun k _ => hf.i h0) (hf.l h0), h6.fr hf (hP _ (by omega) (by omega)) (hP _ (by omega) (by omega))⟩
/-- one pipe has changed -/
theorem WC.pipe {G G' : gS} {X p : Nat} {S : sS} {q : sP} (h : WC X S G) (hp : p < 4) (hf : frm (pipeC (X + 15 + 32 * p)) G G') (hq : pipeAt G' (X + 15 + 32 * p) q) : WC X (S.1, S.2.1, S.2.2.1, va_up S.2.2.2.1 p q, S.2.2.2.2) G' := by
  obtain ⟨h1, h2, h3, h4, h5, h6⟩ := h
  have h0 : ∀ z, (z < X + 15 + 32 * p ∨ X + 15 + 32 * p + 32 ≤ z) → ¬ pipeC (X + 15 + 32 * p) z := fun z hz => by unfold pipeC; omega
  refine ⟨h1.fr hf (fun k => hf.r (h0 _ (by omega))) (h0 _ (by omega)) (h0 _ (by omega)), fun r hr => (h2 r hr).fr hf (h0 _ (by omega)) (h0 _ (by omega)), fun p' hp' => ?_, h4.fr hf (hf.i (h0 _ (by omega))) (h0 _ (by omega)), h5.fr (fun k _ => hf.i (h0 _ (by omega))) (hf.l (h0 _ (by omega))), h6.fr hf (h0 _ (by omega)) (h0 _ (by omega))⟩
  show pipeAt G' _ (va_up S.2.2.2.1 p q p')
  by_cases e : p' = p
  · subst e; rw [show va_up S.2.2.2.1 p' q p' = q from if_pos rfl]; exact hq
  · rw [show va_up S.2.2.2.1 p q p' = S.2.2.2.1 p' from if_neg e]; exact (h3 p' hp').fr hf (fun z z1 z2 => h0 _ (by omega))
/-- one row has changed -/
theorem WC.row {G G' : gS} {X r : Nat} {S : sS} {k n : Int32} {f : Nat → Int64} (h : WC X S G) (hr : r < 6) (hf : frm (fun q => q = X + 2 + 2 * r ∨ q = X + 2 + 2 * r + 1) G G') (hq : rowAt G' (X + 2 + 2 * r) k n f) : WC X (va_up S.1 r k, va_up S.2.1 r n, va_up S.2.2.1 r f, S.2.2.2) G' := by
  obtain ⟨h1, h2, h3, h4, h5, h6⟩ := h
  have h0 : ∀ z, (z < X + 2 + 2 * r ∨ X + 2 + 2 * r + 2 ≤ z) → ¬ (fun q => q = X + 2 + 2 * r ∨ q = X + 2 + 2 * r + 1) z := fun z hz => by dsimp only; omega
  refine ⟨h1.fr hf (fun k => hf.r (h0 _ (by omega))) (h0 _ (by omega)) (h0 _ (by omega)), fun r' hr' => ?_, fun p hp => (h3 p hp).fr hf (fun z z1 z2 => h0 _ (by omega)), h4.fr hf (hf.i (h0 _ (by omega))) (h0 _ (by omega)), h5.fr (fun k _ => hf.i (h0 _ (by omega))) (hf.l (h0 _ (by omega))), h6.fr hf (h0 _ (by omega)) (h0 _ (by omega))⟩
  show rowAt G' _ (va_up S.1 r k r') (va_up S.2.1 r n r') (va_up S.2.2.1 r f r')
  by_cases e : r' = r
  · subst e
    rw [show va_up S.1 r' k r' = k from if_pos rfl, show va_up S.2.1 r' n r' = n from if_pos rfl, show va_up S.2.2.1 r' f r' = f from if_pos rfl]
    exact hq
  · rw [show va_up S.1 r k r' = S.1 r' from if_neg e, show va_up S.2.1 r n r' = S.2.1 r' from if_neg e, show va_up S.2.2.1 r f r' = S.2.2.1 r' from if_neg e]
    exact (h2 r' hr').fr hf (h0 _ (by omega)) (h0 _ (by omega))
