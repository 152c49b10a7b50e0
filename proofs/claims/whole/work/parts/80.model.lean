/-! ===== the reference's cells ===== -/
def mdS (G : gS) (M : Nat) : Prop := gsh G M = (1, 6, 0) ∧ gr G M 1 = some (M + 1) ∧ gr G M 2 = some (M + 2) ∧ gr G M 3 = some (M + 3) ∧ gr G M 4 = some (M + 4) ∧ gr G M 5 = some (M + 5) ∧ gr G M 6 = some (M + 6) ∧ gr G M 7 = some (M + 7) ∧ gr G M 8 = some (M + 8) ∧ gr G M 9 = some (M + 9) ∧ gr G M 10 = some (M + 10) ∧ gr G M 11 = some (M + 11) ∧ gr G M 13 = some (M + 12) ∧ gr G M 14 = some (M + 13) ∧ gr G M 15 = some (M + 14) ∧ gr G M 16 = some (M + 15) ∧ gr G M 17 = some (M + 16) ∧ gr G M 19 = some (M + 17) ∧ gr G M 20 = some (M + 18) ∧ gr G M 26 = some (M + 19) ∧ gr G M 27 = some (M + 20) ∧ gr G M 28 = some (M + 21) ∧ gr G M 29 = some (M + 22) ∧ gr G M 30 = some (M + 23) ∧ gr G M 31 = some (M + 24) ∧ gr G M 40 = some (M + 25) ∧
  gsh G (M + 1) = (2, 0, 6) ∧ gsh G (M + 2) = (2, 0, 6) ∧ gsh G (M + 3) = (2, 1, 96) ∧ gsh G (M + 4) = (2, 0, 4) ∧ gsh G (M + 5) = (2, 1, 4) ∧ gsh G (M + 6) = (2, 1, 4) ∧ gsh G (M + 7) = (2, 0, 4) ∧ gsh G (M + 8) = (2, 0, 4) ∧ gsh G (M + 9) = (2, 0, 40) ∧ gsh G (M + 10) = (2, 0, 160) ∧ gsh G (M + 11) = (2, 1, 160) ∧ gsh G (M + 12) = (2, 0, 500) ∧ gsh G (M + 13) = (2, 1, 500) ∧ gsh G (M + 14) = (2, 0, 500) ∧ gsh G (M + 15) = (2, 0, 500) ∧ gsh G (M + 16) = (2, 0, 500) ∧ gsh G (M + 17) = (2, 0, 1200) ∧ gsh G (M + 18) = (2, 2, 500) ∧ gsh G (M + 19) = (2, 2, 11) ∧ gsh G (M + 20) = (2, 0, 11) ∧ gsh G (M + 21) = (2, 0, 11) ∧ gsh G (M + 22) = (2, 2, 11) ∧ gsh G (M + 23) = (2, 0, 11) ∧ gsh G (M + 24) = (2, 0, 5500) ∧ gsh G (M + 25) = (2, 0, 8)
theorem mdS.fr {G G' : gS} {M : Nat} (h : mdS G M) (hs : ∀ q, gsh G' q = gsh G q) (hr : ∀ k, gr G' M k = gr G M k) : mdS G' M := by
  unfold mdS at h ⊢
  simp only [hs, hr]
  exact h
def mA (M b : Nat) (A : sA) (G : gS) : Prop := gi G (M + 9) b = nI A.length ∧ A.length ≤ 4 ∧ ∀ (k : Nat) (q : Int32 × Int64), A[k]? = some q → gi G (M + 10) (4 * b + k) = q.1 ∧ gl G (M + 11) (4 * b + k) = q.2
def mL (M p : Nat) (L : List sA) (G : gS) : Prop := gi G (M + 8) p = nI L.length ∧ L.length ≤ 10 ∧ ∀ (i : Nat) (A : sA), L[i]? = some A → mA M (10 * p + i) A G
def mRow (M : Nat) (S : sS) (G : gS) : Prop := ∀ r, r < 6 → gi G (M + 1) r = S.1 r ∧ gi G (M + 2) r = S.2.1 r ∧ ∀ j, j < 16 → gl G (M + 3) (16 * r + j) = S.2.2.1 r j
def mPip (M : Nat) (P : Nat → sP) (G : gS) : Prop := ∀ p, p < 4 → gi G (M + 4) p = (P p).1 ∧ gl G (M + 5) p = (P p).2.1 ∧ gl G (M + 6) p = (P p).2.2.1 ∧ gi G (M + 7) p = (P p).2.2.2.1 ∧ mL M p (P p).2.2.2.2 G
def mPh (M : Nat) (ph : List Int32) (G : gS) : Prop := gi G M 39 = nI ph.length ∧ ph.length ≤ 8 ∧ ∀ i r, ph[i]? = some r → gi G (M + 25) i = r
def mBk (M : Nat) (lv : Int64) (bk : Nat × Nat × Nat × Nat) (G : gS) : Prop := gi G M 35 = nI bk.1 ∧ gi G M 36 = nI bk.2.1 ∧ gi G M 37 = nI bk.2.2.1 ∧ gl G M 38 = lN bk.2.2.2 ∧ gl G M 33 = lv ∧ gi G M 34 = b2 (bk.1 ≠ 0)
def mLa (M : Nat) (la : Nat × Nat × Nat × Nat) (G : gS) : Prop := gi G M 21 = nI la.1 ∧ gi G M 22 = nI la.2.1 ∧ gi G M 18 = nI la.2.2.1 ∧ gi G M 23 = nI la.2.2.2
def WM (M : Nat) (S : sS) (G : gS) : Prop := mdS G M ∧ mRow M S G ∧ mPip M S.2.2.2.1 G ∧ mPh M S.2.2.2.2.1 G ∧ mBk M S.2.2.2.2.2.1 S.2.2.2.2.2.2.1 G ∧ mLa M S.2.2.2.2.2.2.2 G
def mdC (M : Nat) : Nat → Prop := fun q => M ≤ q ∧ q < M + 26
theorem mA.fr {M b : Nat} {A : sA} {G G' : gS} (h : mA M b A G) (h9 : gi G' (M + 9) b = gi G (M + 9) b) (h10 : ∀ k, k < 4 → gi G' (M + 10) (4 * b + k) = gi G (M + 10) (4 * b + k)) (h11 : ∀ k, k < 4 → gl G' (M + 11) (4 * b + k) = gl G (M + 11) (4 * b + k)) : mA M b A G' := by
  obtain ⟨a1, a2, a3⟩ := h
  refine ⟨by rw [h9]; exact a1, a2, fun k q hq => ?_⟩
  have hk : k < A.length := (List.getElem?_eq_some_iff.mp hq).1
  rw [h10 k (by omega), h11 k (by omega)]; exact a3 k q hq
theorem mL.fr {M p : Nat} {L : List sA} {G G' : gS} (h : mL M p L G) (h8 : gi G' (M + 8) p = gi G (M + 8) p) (h9 : ∀ i, i < 10 → gi G' (M + 9) (10 * p + i) = gi G (M + 9) (10 * p + i)) (h10 : ∀ k, k < 40 → gi G' (M + 10) (40 * p + k) = gi G (M + 10) (40 * p + k)) (h11 : ∀ k, k < 40 → gl G' (M + 11) (40 * p + k) = gl G (M + 11) (40 * p + k)) : mL M p L G' := by
  obtain ⟨a1, a2, a3⟩ := h
  refine ⟨by rw [h8]; exact a1, a2, fun i A hA => ?_⟩
  have hi : i < L.length := (List.getElem?_eq_some_iff.mp hA).1
  refine (a3 i A hA).fr (h9 i (by omega)) (fun k hk => ?_) (fun k hk => ?_)
  · have := h10 (4 * i + k) (by omega)
    rw [show 4 * (10 * p + i) + k = 40 * p + (4 * i + k) by omega]; exact this
  · have := h11 (4 * i + k) (by omega)
    rw [show 4 * (10 * p + i) + k = 40 * p + (4 * i + k) by omega]; exact this
theorem mRow.fr {M : Nat} {S S' : sS} {G G' : gS} (h : mRow M S G) (e1 : S'.1 = S.1) (e2 : S'.2.1 = S.2.1) (e3 : S'.2.2.1 = S.2.2.1) (h1 : ∀ k, gi G' (M + 1) k = gi G (M + 1) k) (h2 : ∀ k, gi G' (M + 2) k = gi G (M + 2) k) (h3 : ∀ k, gl G' (M + 3) k = gl G (M + 3) k) : mRow M S' G' := by
  intro r hr
  obtain ⟨a1, a2, a3⟩ := h r hr
  rw [e1, e2, e3, h1, h2]
  exact ⟨a1, a2, fun j hj => by rw [h3]; exact a3 j hj⟩
theorem mPip.fr {M : Nat} {P : Nat → sP} {G G' : gS} (h : mPip M P G) (hi : ∀ q k, M + 4 ≤ q → q < M + 11 → gi G' q k = gi G q k) (hl : ∀ q k, M + 4 ≤ q → q < M + 12 → gl G' q k = gl G q k) : mPip M P G' := by
  intro p hp
  obtain ⟨a1, a2, a3, a4, a5⟩ := h p hp
  exact ⟨by rw [hi _ _ (by omega) (by omega)]; exact a1, by rw [hl _ _ (by omega) (by omega)]; exact a2, by rw [hl _ _ (by omega) (by omega)]; exact a3, by rw [hi _ _ (by omega) (by omega)]; exact a4, a5.fr (hi _ _ (by omega) (by omega)) (fun i _ => hi _ _ (by omega) (by omega)) (fun k _ => hi _ _ (by omega) (by omega)) (fun k _ => hl _ _ (by omega) (by omega))⟩
theorem mPh.fr {M : Nat} {ph : List Int32} {G G' : gS} (h : mPh M ph G) (h1 : gi G' M 39 = gi G M 39) (h2 : ∀ k, gi G' (M + 25) k = gi G (M + 25) k) : mPh M ph G' := ⟨by rw [h1]; exact h.1, h.2.1, fun i r hr => by rw [h2]; exact h.2.2 i r hr⟩
theorem mBk.fr {M : Nat} {lv : Int64} {bk : Nat × Nat × Nat × Nat} {G G' : gS} (h : mBk M lv bk G) (h1 : ∀ k, 33 ≤ k → k < 38 → gi G' M k = gi G M k) (h2 : ∀ k, gl G' M k = gl G M k) : mBk M lv bk G' := by
  obtain ⟨a1, a2, a3, a4, a5, a6⟩ := h
  exact ⟨by rw [h1 _ (by decide) (by decide)]; exact a1, by rw [h1 _ (by decide) (by decide)]; exact a2, by rw [h1 _ (by decide) (by decide)]; exact a3, by rw [h2]; exact a4, by rw [h2]; exact a5, by rw [h1 _ (by decide) (by decide)]; exact a6⟩
theorem mLa.fr {M : Nat} {la : Nat × Nat × Nat × Nat} {G G' : gS} (h : mLa M la G) (h1 : ∀ k, 18 ≤ k → k < 24 → gi G' M k = gi G M k) : mLa M la G' := by
  obtain ⟨a1, a2, a3, a4⟩ := h
  exact ⟨by rw [h1 _ (by decide) (by decide)]; exact a1, by rw [h1 _ (by decide) (by decide)]; exact a2, by rw [h1 _ (by decide) (by decide)]; exact a3, by rw [h1 _ (by decide) (by decide)]; exact a4⟩
/-- nothing of WM has changed -/
theorem WM.fr {M : Nat} {S : sS} {G G' : gS} {Q : Nat → Prop} (h : WM M S G) (hf : frm Q G G') (hQ : ∀ q, M ≤ q → q < M + 26 → ¬ Q q) : WM M S G' := by
  obtain ⟨h1, h2, h3, h4, h5, h6⟩ := h
  have hi : ∀ q k, M ≤ q → q < M + 26 → gi G' q k = gi G q k := fun q k z1 z2 => hf.i (hQ q z1 z2)
  have hl : ∀ q k, M ≤ q → q < M + 26 → gl G' q k = gl G q k := fun q k z1 z2 => hf.l (hQ q z1 z2)
  exact ⟨h1.fr hf.2.1 (fun k => hf.r (hQ _ (by omega) (by omega))), h2.fr rfl rfl rfl (fun k => hi _ _ (by omega) (by omega)) (fun k => hi _ _ (by omega) (by omega)) (fun k => hl _ _ (by omega) (by omega)), h3.fr (fun q k z1 z2 => hi _ _ (by omega) (by omega)) (fun q k z1 z2 => hl _ _ (by omega) (by omega)), h4.fr (hi _ _ (by omega) (by omega)) (fun k => hi _ _ (by omega) (by omega)), h5.fr (fun k _ _ => hi _ _ (by omega) (by omega)) (fun k => hl _ _ (by omega) (by omega)), h6.fr (fun k _ _ => hi _ _ (by omega) (by omega))⟩
theorem WM.t {M : Nat} {S : sS} {G : gS} {v : Int32} (h : WM M S G) : WM M S (si G M 0 v) := by
  obtain ⟨h1, h2, h3, h4, h5, h6⟩ := h
  exact ⟨h1.fr (fun _ => rfl) (fun _ => rfl), h2.fr rfl rfl rfl (fun k => gi_ne (by omega)) (fun k => gi_ne (by omega)) (fun _ => rfl), h3.fr (fun q k z1 z2 => gi_ne (by omega)) (fun _ _ _ _ => rfl), h4.fr (gi_kn (by decide)) (fun k => gi_ne (by omega)), h5.fr (fun k z1 z2 => gi_kn (by omega)) (fun _ => rfl), h6.fr (fun k z1 z2 => gi_kn (by omega))⟩
theorem frm_t {M : Nat} {G G' : gS} {k : Nat} {v : Int32} (h : frm (mdC M) G G') : frm (mdC M) G (si G' M k v) := h.si ⟨by omega, by omega⟩
