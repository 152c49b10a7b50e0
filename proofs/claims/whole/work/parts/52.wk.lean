/-! ===== what 'wk' does to the table of elements ===== -/
/-- the table keeps its form: nothing worked changes, tags only go on, acts, inputs and befores stay -/
def elK (el el' : Nat → sE) : Prop := ∀ x, (el' x).2.2 = (el x).2.2 ∧ ((el x).1 = 0 → el' x = el x) ∧ ((el' x).1 = (el x).1 ∨ (el' x).1 = 0 ∨ (2 ≤ (el x).1 ∧ (el' x).1 = 3))
theorem elK.rf {el : Nat → sE} : elK el el := fun x => ⟨rfl, fun _ => rfl, Or.inl rfl⟩
theorem elK.tr {a b c : Nat → sE} (h : elK a b) (h' : elK b c) : elK a c := by
  intro x
  obtain ⟨h1, h2, h3⟩ := h x
  obtain ⟨k1, k2, k3⟩ := h' x
  refine ⟨k1.trans h1, fun h0 => ?_, ?_⟩
  · have e1 := h2 h0
    rw [k2 (by rw [e1]; exact h0), e1]
  · by_cases hb : (b x).1 = 0
    · have := k2 hb
      exact Or.inr (Or.inl (by rw [this]; exact hb))
    · rcases k3 with k3 | k3 | ⟨k3, k4⟩
      · rcases h3 with h3 | h3 | ⟨h3, h4⟩
        · exact Or.inl (k3.trans h3)
        · exact absurd h3 hb
        · exact Or.inr (Or.inr ⟨h3, k3.trans h4⟩)
      · exact Or.inr (Or.inl k3)
      · rcases h3 with h3 | h3 | ⟨h3, h4⟩
        · exact Or.inr (Or.inr ⟨by omega, k4⟩)
        · exact absurd h3 hb
        · exact Or.inr (Or.inr ⟨h3, k4⟩)
theorem elK.sv {el : Nat → sE} {e : Nat} {x : Int64} (h : (el e).1 ≠ 0) : elK el (setV el e x) := by
  intro y
  by_cases hy : y = e
  · subst hy
    rw [show setV el y x y = (0, x, (el y).2.2) from if_pos rfl]
    exact ⟨rfl, fun h0 => absurd h0 h, Or.inr (Or.inl rfl)⟩
  · rw [show setV el e x y = el y from if_neg hy]; exact ⟨rfl, fun _ => rfl, Or.inl rfl⟩
theorem elK.beg {el : Nat → sE} {e : Nat} (h : 2 ≤ (el e).1) : elK el (begE el e) := by
  intro y
  by_cases hy : y = e
  · subst hy
    rw [show begE el y y = (3, (el y).2) from if_pos rfl]
    exact ⟨rfl, fun h0 => absurd h0 (by omega), Or.inr (Or.inr ⟨h, rfl⟩)⟩
  · rw [show begE el e y = el y from if_neg hy]; exact ⟨rfl, fun _ => rfl, Or.inl rfl⟩
theorem wfE.k {L : List sA} {el el' : Nat → sE} {n : Nat} (h : wfE L el n) (hk : elK el el') : wfE L el' n := by
  intro e he
  obtain ⟨h1, h2, h3⟩ := h e he
  obtain ⟨k1, k2, k3⟩ := hk e
  rw [k1]
  refine ⟨fun q => h1 ?_, fun q => h2 ?_, fun q => h3 ?_⟩
  · rcases k3 with k3 | k3 | k3 <;> omega
  · rcases k3 with k3 | k3 | k3 <;> omega
  · rcases k3 with k3 | k3 | k3 <;> omega
theorem wk_f {R : sR} {L : List sA} {n e : Nat} {s : sW} (h : s.2.2 ≠ 0) : wk R L n e s = s := by
  cases n with
  | zero => rfl
  | succ n => unfold wk; rw [if_pos h]
theorem wk_0 {R : sR} {L : List sA} {n e : Nat} {s : sW} (h : (s.1 e).1 = 0) : wk R L n e s = s := by
  cases n with
  | zero => rfl
  | succ n =>
    unfold wk
    by_cases hf : s.2.2 ≠ 0
    · rw [if_pos hf]
    · rw [if_neg hf, if_pos h]
theorem wkM_k {R : sR} {L : List sA} {e : Nat} {s : sW} (h : (s.1 e).1 ≠ 0) : elK s.1 (wkM R L e s).1 ∧ (∀ x, x ≠ e → (wkM R L e s).1 x = s.1 x) ∧ ((wkM R L e s).2.2 = 0 → ((wkM R L e s).1 e).1 = 0 ∧ s.2.2 = 0) := by
  unfold wkM
  split
  · rename_i hf; exact ⟨elK.rf, fun _ _ => rfl, fun q => absurd q hf⟩
  · rename_i hf
    split
    · rename_i h2; exact ⟨elK.rf, fun _ _ => rfl, fun q => absurd q h2⟩
    · exact ⟨elK.sv h, fun x hx => if_neg hx, fun _ => ⟨by show (setV s.1 e _ e).1 = 0; rw [show setV s.1 e _ e = (0, _, (s.1 e).2.2) from if_pos rfl], by simpa using hf⟩⟩
theorem wkS_k {e : Nat} {s : sW} (h : (s.1 e).1 ≠ 0) : elK s.1 (wkS e s).1 ∧ (∀ x, x ≠ e → (wkS e s).1 x = s.1 x) ∧ ((wkS e s).2.2 = 0 → ((wkS e s).1 e).1 = 0 ∧ s.2.2 = 0) := by
  unfold wkS
  split
  · rename_i hf; exact ⟨elK.rf, fun _ _ => rfl, fun q => absurd q hf⟩
  · rename_i hf
    exact ⟨elK.sv h, fun x hx => if_neg hx, fun _ => ⟨by show (setV s.1 e _ e).1 = 0; rw [show setV s.1 e _ e = (0, _, (s.1 e).2.2) from if_pos rfl], by simpa using hf⟩⟩
theorem wk_k {R : sR} {L : List sA} {m : Nat} : ∀ (n e : Nat) (s : sW), e < n → e < m → wfE L s.1 m → elK s.1 (wk R L n e s).1 ∧ (∀ x, e < x → (wk R L n e s).1 x = s.1 x) ∧ ((wk R L n e s).2.2 = 0 → ((wk R L n e s).1 e).1 = 0 ∧ s.2.2 = 0) := by
  intro n
  induction n with
  | zero => intro e s h; omega
  | succ n ih =>
    intro e s hen hem hwf
    unfold wk
    obtain ⟨f1, f2, f3⟩ := hwf e hem
    split
    · rename_i hf; exact ⟨elK.rf, fun _ _ => rfl, fun q => absurd q hf⟩
    · rename_i hf
      split
      · rename_i h0; exact ⟨elK.rf, fun _ _ => rfl, fun _ => ⟨h0, by simpa using hf⟩⟩
      · rename_i h0
        have hinp := f1 (by omega)
        split
        · obtain ⟨a1, a2, a3⟩ := ih (s.1 e).2.2.2.1 s (by omega) (by omega) hwf
          have he : (wk R L n (s.1 e).2.2.2.1 s).1 e = s.1 e := a2 e hinp
          obtain ⟨b1, b2, b3⟩ := wkM_k (R := R) (L := L) (e := e) (s := wk R L n (s.1 e).2.2.2.1 s) (by rw [he]; exact h0)
          exact ⟨a1.tr b1, fun x hx => by rw [b2 x (by omega), a2 x (by omega)], fun q => ⟨(b3 q).1, (a3 (b3 q).2).2⟩⟩
        · rename_i h1
          have h2 : 2 ≤ (s.1 e).1 := by omega
          have c1 : elK s.1 (begE s.1 e) := elK.beg h2
          have c2 : ∀ x, x ≠ e → begE s.1 e x = s.1 x := fun x hx => if_neg hx
          have ce : begE s.1 e e = (3, (s.1 e).2) := if_pos rfl
          have mid : ∀ (s1 : sW), elK s.1 s1.1 → (∀ x, e < x → s1.1 x = s.1 x) → (s1.1 e).1 ≠ 0 → elK s.1 (wkS e (wk R L n (s.1 e).2.2.2.1 s1)).1 ∧ (∀ x, e < x → (wkS e (wk R L n (s.1 e).2.2.2.1 s1)).1 x = s.1 x) ∧ ((wkS e (wk R L n (s.1 e).2.2.2.1 s1)).2.2 = 0 → ((wkS e (wk R L n (s.1 e).2.2.2.1 s1)).1 e).1 = 0 ∧ s.2.2 = 0) := by
            intro s1 d1 d2 d3
            obtain ⟨a1, a2, a3⟩ := ih (s.1 e).2.2.2.1 s1 (by omega) (by omega) (hwf.k d1)
            obtain ⟨b1, b2, b3⟩ := wkS_k (e := e) (s := wk R L n (s.1 e).2.2.2.1 s1) (by rw [a2 e hinp]; exact d3)
            exact ⟨(d1.tr a1).tr b1, fun x hx => by rw [b2 x (by omega), a2 x (by omega), d2 x hx], fun q => ⟨(b3 q).1, by simpa using hf⟩⟩
          cases hb : (s.1 e).2.2.2.2 with
          | none => exact mid (begE s.1 e, _, 0) c1 (fun x hx => c2 x (by omega)) (by show (begE s.1 e e).1 ≠ 0; rw [ce]; simp)
          | some b =>
            have hbe := f3 h2 b hb
            obtain ⟨a1, a2, a3⟩ := ih b (begE s.1 e, s.2.1 + (if (s.1 e).1 = 2 then 1 else 0), 0) (by omega) (by omega) (hwf.k c1)
            refine mid _ (c1.tr a1) (fun x hx => by rw [a2 x (by omega)]; exact c2 x (by omega)) ?_
            rw [a2 e hbe]
            show (begE s.1 e e).1 ≠ 0
            rw [ce]; simp
/-- how many of the first m aren't worked -/
def cnt (el : Nat → sE) : Nat → Nat
  | 0 => 0
  | m + 1 => cnt el m + (if (el m).1 = 0 then 0 else 1)
theorem cnt_le (el : Nat → sE) : ∀ m, cnt el m ≤ m := by
  intro m
  induction m with
  | zero => exact Nat.le_refl _
  | succ m ih => unfold cnt; split <;> omega
theorem cnt_mono (el : Nat → sE) : ∀ (b c : Nat), cnt el b ≤ cnt el (b + c) := by
  intro b c
  induction c with
  | zero => exact Nat.le_refl _
  | succ c ih => exact Nat.le_trans ih (Nat.le_add_right _ _)
theorem cnt_lt {el : Nat → sE} {b e : Nat} (h : b < e) (he : (el e).1 ≠ 0) : cnt el (b + 1) + 1 ≤ cnt el (e + 1) := by
  obtain ⟨c, rfl⟩ := Nat.exists_eq_add_of_le (show b + 1 ≤ e by omega)
  have := cnt_mono el (b + 1) c
  conv => rhs; unfold cnt
  rw [if_neg he]; omega
theorem cnt_eq {el el' : Nat → sE} (h : ∀ x, ((el x).1 = 0) ↔ ((el' x).1 = 0)) : ∀ m, cnt el m = cnt el' m := by
  intro m
  induction m with
  | zero => rfl
  | succ m ih =>
    unfold cnt
    rw [ih]
    by_cases h0 : (el m).1 = 0
    · rw [if_pos h0, if_pos ((h m).mp h0)]
    · rw [if_neg h0, if_neg (fun q => h0 ((h m).mpr q))]
theorem cnt_set {el : Nat → sE} {e : Nat} {v : Int64} (he : (el e).1 ≠ 0) : ∀ m, (m ≤ e → cnt (setV el e v) m = cnt el m) ∧ (e < m → cnt (setV el e v) m + 1 = cnt el m) := by
  intro m
  induction m with
  | zero => exact ⟨fun _ => rfl, fun h => by omega⟩
  | succ m ih =>
    refine ⟨fun h => ?_, fun h => ?_⟩
    · unfold cnt
      rw [ih.1 (by omega), show setV el e v m = el m from if_neg (by omega)]
    · unfold cnt
      by_cases hm : m = e
      · subst hm
        rw [ih.1 (Nat.le_refl _), show setV el m v m = (0, v, (el m).2.2) from if_pos rfl, if_pos rfl, if_neg he]
      · rw [show setV el e v m = el m from if_neg hm]
        have := ih.2 (by omega)
        omega
theorem cnt_beg {el : Nat → sE} {e : Nat} (he : (el e).1 ≠ 0) (m : Nat) : cnt (begE el e) m = cnt el m := by
  refine cnt_eq (fun x => ?_) m
  by_cases hx : x = e
  · subst hx
    rw [show begE el x x = (3, (el x).2) from if_pos rfl]
    exact ⟨fun h => absurd h (by simp), fun h => absurd h he⟩
  · rw [show begE el e x = el x from if_neg hx]
