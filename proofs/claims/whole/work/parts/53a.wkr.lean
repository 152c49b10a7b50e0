/-! ===== resuming the work ===== -/
/-- how many of those that x waits for aren't worked -/
def uw (el : Nat → sE) (x : Nat) : Nat := (if (el (el x).2.2.2.1).1 ≠ 0 then 1 else 0) + (if 2 ≤ (el x).1 then (match (el x).2.2.2.2 with | some b => if (el b).1 ≠ 0 then 1 else 0 | none => 0) else 0)
theorem uw_le (el : Nat → sE) (x : Nat) : uw el x ≤ 2 := by
  unfold uw
  repeat' split
  all_goals omega
theorem elK.w {el el' : Nat → sE} (h : elK el el') (y : Nat) : (if (el' y).1 ≠ 0 then 1 else 0) ≤ (if (el y).1 ≠ 0 then 1 else 0) := by
  by_cases h0 : (el y).1 = 0
  · rw [(h y).2.1 h0]; exact Nat.le_refl _
  · rw [if_pos h0]; split <;> omega
theorem uw_dec {el el' : Nat → sE} {x c : Nat} (hk : elK el el') (hc : (el c).1 ≠ 0) (hc' : (el' c).1 = 0) (h1 : 1 ≤ (el x).1) (h1' : 1 ≤ (el' x).1) (hor : c = (el x).2.2.2.1 ∨ (2 ≤ (el x).1 ∧ (el x).2.2.2.2 = some c)) : uw el' x + 1 ≤ uw el x := by
  obtain ⟨e1, e2, e3⟩ := hk x
  have htag : 2 ≤ (el' x).1 ↔ 2 ≤ (el x).1 := by rcases e3 with e3 | e3 | ⟨e3, e4⟩ <;> omega
  unfold uw
  rw [e1]
  have q1 := hk.w (el x).2.2.2.1
  by_cases h2 : 2 ≤ (el x).1
  · rw [if_pos h2, if_pos (htag.mpr h2)]
    rcases hor with rfl | ⟨-, hb⟩
    · rw [if_neg (not_not_intro hc'), if_pos hc]
      cases (el x).2.2.2.2 with
      | none => dsimp only; omega
      | some b => have := hk.w b; dsimp only; omega
    · rw [hb]; dsimp only
      rw [if_neg (not_not_intro hc'), if_pos hc]; omega
  · rw [if_neg h2, if_neg (fun z => h2 (htag.mp z))]
    rcases hor with rfl | ⟨z, -⟩
    · rw [if_neg (not_not_intro hc'), if_pos hc]; exact Nat.le_refl _
    · exact absurd z h2
theorem wk_m1 {R : sR} {L : List sA} {m n x w : Nat} {el : Nat → sE} (hx : x < n + 1) (hm : x < m) (hwf : wfE L el m) (h1 : (el x).1 = 1) : ((wk R L n (el x).2.2.2.1 (el, w, 0)).2.2 ≠ 0 → wk R L (n + 1) x (el, w, 0) = wk R L n (el x).2.2.2.1 (el, w, 0)) ∧ ((wk R L n (el x).2.2.2.1 (el, w, 0)).2.2 = 0 → wk R L (n + 1) x (el, w, 0) = wk R L (n + 1) x (wk R L n (el x).2.2.2.1 (el, w, 0)) ∧ (wk R L n (el x).2.2.2.1 (el, w, 0)).1 x = el x ∧ elK el (wk R L n (el x).2.2.2.1 (el, w, 0)).1 ∧ ((wk R L n (el x).2.2.2.1 (el, w, 0)).1 (el x).2.2.2.1).1 = 0) := by
  have hinp := (hwf x hm).1 (by omega)
  obtain ⟨a1, a2, a3⟩ := wk_k (R := R) (L := L) (m := m) n (el x).2.2.2.1 (el, w, 0) (by omega) (by omega) hwf
  have hE : wk R L (n + 1) x (el, w, 0) = wkM R L x (wk R L n (el x).2.2.2.1 (el, w, 0)) := by
    conv => lhs; unfold wk
    rw [if_neg (by simp), if_neg (by dsimp only; omega), if_pos h1]
  generalize wk R L n (el x).2.2.2.1 (el, w, 0) = r at *
  have hrx := a2 x hinp
  refine ⟨fun h => ?_, fun h => ⟨?_, hrx, a1, (a3 h).1⟩⟩
  · rw [hE]; unfold wkM; rw [if_pos h]
  · rw [hE]
    conv => rhs; unfold wk
    rw [if_neg (not_not_intro h), hrx, if_neg (by dsimp only; omega), if_pos h1, wk_0 (a3 h).1]
theorem wk_m0 {R : sR} {L : List sA} {n x w : Nat} {el : Nat → sE} (h1 : (el x).1 = 1) (h0 : (el (el x).2.2.2.1).1 = 0) : wk R L (n + 1) x (el, w, 0) = wkM R L x (el, w, 0) := by
  unfold wk
  rw [if_neg (by simp), if_neg (by dsimp only; omega), if_pos h1, wk_0 h0]
theorem wk_s1 {R : sR} {L : List sA} {m n x w c : Nat} {el : Nat → sE} (hx : x < n + 1) (hm : x < m) (hwf : wfE L el m) (h1 : 2 ≤ (el x).1) (hc : nxtE (begE el x) x = some c) : c < x ∧ (el c).1 ≠ 0 ∧ (c = (el x).2.2.2.1 ∨ (el x).2.2.2.2 = some c) ∧ ∀ r, wk R L n c (begE el x, w + (if (el x).1 = 2 then 1 else 0), 0) = r → (r.2.2 ≠ 0 → wk R L (n + 1) x (el, w, 0) = r) ∧ (r.2.2 = 0 → wk R L (n + 1) x (el, w, 0) = wk R L (n + 1) x r ∧ r.1 x = begE el x x ∧ elK el r.1 ∧ (r.1 c).1 = 0) := by
  have hinp := (hwf x hm).1 (by omega)
  have hbf := (hwf x hm).2.2 h1
  have ce : begE el x x = (3, (el x).2) := if_pos rfl
  have cn : ∀ y, y ≠ x → begE el x y = el y := fun y hy => if_neg hy
  have hK : elK el (begE el x) := elK.beg h1
  have hwf' : wfE L (begE el x) m := hwf.k hK
  have hU : ∀ s : sW, s.2.2 = 0 → 2 ≤ (s.1 x).1 → wk R L (n + 1) x s = wkS x (wk R L n (s.1 x).2.2.2.1 (match (s.1 x).2.2.2.2 with | none => (begE s.1 x, s.2.1 + (if (s.1 x).1 = 2 then 1 else 0), 0) | some b => wk R L n b (begE s.1 x, s.2.1 + (if (s.1 x).1 = 2 then 1 else 0), 0))) := by
    intro s h h2
    conv => lhs; unfold wk
    rw [if_neg (not_not_intro h), if_neg (by omega), if_neg (by omega)]
    rfl
  have hR : ∀ r : sW, r.2.2 = 0 → r.1 x = (3, (el x).2) → begE r.1 x = r.1 ∧ (begE r.1 x, r.2.1 + (if (r.1 x).1 = 2 then 1 else 0), 0) = r := by
    intro r h h2
    have hb : begE r.1 x = r.1 := by
      funext y
      by_cases hy : y = x
      · subst hy; rw [show begE r.1 y y = (3, (r.1 y).2) from if_pos rfl, h2]
      · exact if_neg hy
    refine ⟨hb, ?_⟩
    rw [hb, h2, if_neg (by simp)]
    obtain ⟨r1, r2, r3⟩ := r
    dsimp only at h
    subst h
    rfl
  have hE := hU (el, w, 0) rfl h1
  dsimp only at hE
  have common : ∀ (cc : Nat) (r : sW), cc < x → wk R L n cc (begE el x, w + (if (el x).1 = 2 then 1 else 0), 0) = r → elK el r.1 ∧ r.1 x = (3, (el x).2) ∧ (r.2.2 = 0 → (r.1 cc).1 = 0) := by
    intro cc r h hr
    obtain ⟨a1, a2, a3⟩ := wk_k (R := R) (L := L) (m := m) n cc (begE el x, w + (if (el x).1 = 2 then 1 else 0), 0) (by omega) (by omega) hwf'
    rw [hr] at a1 a2 a3
    exact ⟨hK.tr a1, by rw [a2 x h]; exact ce, fun h => (a3 h).1⟩
  -- the child is the before
  have cB : ∀ b, (el x).2.2.2.2 = some b → ∀ r, wk R L n b (begE el x, w + (if (el x).1 = 2 then 1 else 0), 0) = r → (r.2.2 ≠ 0 → wk R L (n + 1) x (el, w, 0) = r) ∧ (r.2.2 = 0 → wk R L (n + 1) x (el, w, 0) = wk R L (n + 1) x r ∧ r.1 x = begE el x x ∧ elK el r.1 ∧ (r.1 b).1 = 0) := by
    intro b hb r hr
    obtain ⟨k1, k2, k3⟩ := common b r (hbf b hb) hr
    rw [hb] at hE
    dsimp only at hE
    rw [hr] at hE
    refine ⟨fun h => ?_, fun h => ⟨?_, k2.trans ce.symm, k1, k3 h⟩⟩
    · rw [hE, wk_f h]; unfold wkS; rw [if_pos h]
    · rw [hE, hU r h (by rw [k2]; show 2 ≤ 3; omega), k2]
      dsimp only
      rw [hb]
      dsimp only
      have := (hR r h k2).2
      rw [k2] at this
      dsimp only at this
      rw [this, wk_0 (k3 h)]
  -- the child is the input
  have cI : (match (el x).2.2.2.2 with | none => (begE el x, w + (if (el x).1 = 2 then 1 else 0), 0) | some b => wk R L n b (begE el x, w + (if (el x).1 = 2 then 1 else 0), 0)) = (begE el x, w + (if (el x).1 = 2 then 1 else 0), 0) → (∀ b, (el x).2.2.2.2 = some b → (el b).1 = 0) → ∀ r, wk R L n (el x).2.2.2.1 (begE el x, w + (if (el x).1 = 2 then 1 else 0), 0) = r → (r.2.2 ≠ 0 → wk R L (n + 1) x (el, w, 0) = r) ∧ (r.2.2 = 0 → wk R L (n + 1) x (el, w, 0) = wk R L (n + 1) x r ∧ r.1 x = begE el x x ∧ elK el r.1 ∧ (r.1 (el x).2.2.2.1).1 = 0) := by
    intro hm0 hb0 r hr
    obtain ⟨k1, k2, k3⟩ := common _ r hinp hr
    rw [hm0, hr] at hE
    refine ⟨fun h => ?_, fun h => ⟨?_, k2.trans ce.symm, k1, k3 h⟩⟩
    · rw [hE]; unfold wkS; rw [if_pos h]
    · rw [hE, hU r h (by rw [k2]; show 2 ≤ 3; omega), k2]
      dsimp only
      have := (hR r h k2).2
      rw [k2] at this
      dsimp only at this
      rw [this]
      cases hb : (el x).2.2.2.2 with
      | none => dsimp only; rw [wk_0 (k3 h)]
      | some b =>
        dsimp only
        have h0 := hb0 b hb
        have : (r.1 b).1 = 0 := by rw [(k1 b).2.1 h0]; exact h0
        rw [wk_0 this, wk_0 (k3 h)]
  unfold nxtE at hc
  rw [ce] at hc
  dsimp only at hc
  cases hb : (el x).2.2.2.2 with
  | none =>
    rw [hb] at hc
    dsimp only at hc
    rw [cn _ (by omega)] at hc
    by_cases h0 : (el (el x).2.2.2.1).1 ≠ 0
    · rw [if_pos h0] at hc
      cases hc
      refine ⟨hinp, h0, Or.inl rfl, cI (by rw [hb]) (fun b hb' => by rw [hb] at hb'; cases hb')⟩
    · rw [if_neg h0] at hc; cases hc
  | some b =>
    have hbx := hbf b hb
    rw [hb] at hc
    dsimp only at hc
    rw [cn b (by omega), cn _ (by omega)] at hc
    by_cases h0 : (el b).1 ≠ 0
    · rw [if_pos h0] at hc
      cases hc
      exact ⟨hbx, h0, Or.inr rfl, cB _ hb⟩
    · rw [if_neg h0] at hc
      by_cases h2 : (el (el x).2.2.2.1).1 ≠ 0
      · rw [if_pos h2] at hc
        cases hc
        refine ⟨hinp, h2, Or.inl rfl, cI (by rw [hb]; dsimp only; exact wk_0 (by dsimp only; rw [cn b (by omega)]; omega)) (fun b' hb' => by rw [hb] at hb'; cases hb'; omega)⟩
      · rw [if_neg h2] at hc; cases hc
theorem wk_s0 {R : sR} {L : List sA} {m n x w : Nat} {el : Nat → sE} (hm : x < m) (hwf : wfE L el m) (h1 : 2 ≤ (el x).1) (hc : nxtE (begE el x) x = none) : wk R L (n + 1) x (el, w, 0) = wkS x (begE el x, w + (if (el x).1 = 2 then 1 else 0), 0) := by
  have hinp := (hwf x hm).1 (by omega)
  have hbf := (hwf x hm).2.2 h1
  have ce : begE el x x = (3, (el x).2) := if_pos rfl
  have cn : ∀ y, y ≠ x → begE el x y = el y := fun y hy => if_neg hy
  conv => lhs; unfold wk
  rw [if_neg (by simp), if_neg (by dsimp only; omega), if_neg (by dsimp only; omega)]
  dsimp only
  unfold nxtE at hc
  rw [ce] at hc
  dsimp only at hc
  cases hb : (el x).2.2.2.2 with
  | none =>
    rw [hb] at hc
    dsimp only at hc
    rw [cn _ (by omega)] at hc
    by_cases h0 : (el (el x).2.2.2.1).1 ≠ 0
    · rw [if_pos h0] at hc; cases hc
    · dsimp only
      rw [wk_0 (by dsimp only; rw [cn _ (by omega)]; omega)]
  | some b =>
    have hbx := hbf b hb
    rw [hb] at hc
    dsimp only at hc
    rw [cn b (by omega), cn _ (by omega)] at hc
    by_cases h0 : (el b).1 ≠ 0
    · rw [if_pos h0] at hc; cases hc
    · rw [if_neg h0] at hc
      by_cases h2 : (el (el x).2.2.2.1).1 ≠ 0
      · rw [if_pos h2] at hc; cases hc
      · dsimp only
        rw [wk_0 (e := b) (by dsimp only; rw [cn b (by omega)]; omega), wk_0 (by dsimp only; rw [cn _ (by omega)]; omega)]
