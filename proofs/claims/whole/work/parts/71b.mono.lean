/-! ===== an ask takes no element away ===== -/
def mN (f : sF) : Prop := ∀ T, tN T ≤ tN (f T).1
theorem mN_cel {T : sT} {r : sT × Option Nat} (h : tN T ≤ tN r.1) : tN T ≤ tN (celP r).1 := by
  obtain ⟨T1, o⟩ := r
  cases o <;> exact h
theorem mN_ask {R : sR} {L : List sA} {P : sP} : ∀ k, mN (askP R L P k) := by
  have ent : ∀ g, mN g → mN (entP g) := by
    intro g hg T
    unfold entP
    by_cases ho : tOv T
    · rw [if_pos ho]; exact Nat.le_refl _
    · rw [if_neg ho]
      split
      · exact Nat.le_refl _
      · exact hg (sAk T)
  have src : mN (srcP R P) := by
    intro T
    unfold srcP
    repeat' split
    all_goals first | exact Nat.le_refl _ | exact Nat.le_succ _
  intro k
  induction k with
  | zero => exact ent _ src
  | succ k f =>
    refine ent _ (fun T => ?_)
    have wkN : ∀ e T, tN (wkT R L e T) = tN T := fun _ _ => rfl
    have tst : ∀ A n T, tN T ≤ tN (tstP R L A (askP R L P k) n T).1 := by
      intro A n
      induction n with
      | zero => intro T; exact Nat.le_refl _
      | succ n ih =>
        intro T
        have h1 := f T
        unfold tstP
        cases ho : (askP R L P k T).2 with
        | none => exact h1
        | some e =>
          dsimp only
          split
          · rw [wkN]; exact h1
          · split
            · rw [wkN]; exact h1
            · exact Nat.le_trans (by rw [wkN]; exact h1) (ih (wkT R L e (askP R L P k T).1))
    have skl : ∀ x m n T, tN T ≤ tN (skL x (askP R L P k) m n T).1 := by
      intro x m
      induction m with
      | zero => intro n T; exact Nat.le_refl _
      | succ m ih =>
        intro n T
        have h1 := f T
        unfold skL
        split
        · cases ho : (askP R L P k T).2 with
          | none => exact h1
          | some e => exact Nat.le_trans h1 (ih _ _)
        · exact Nat.le_refl _
    have pil : ∀ v n T, tN T ≤ tN (pilP v (askP R L P k) n T) := by
      intro v n
      induction n with
      | zero => intro T; exact Nat.le_refl _
      | succ n ih =>
        intro T
        have h1 := f T
        unfold pilP
        cases ho : (askP R L P k T).2 with
        | none => exact h1
        | some e => exact Nat.le_trans h1 (ih (sPush (askP R L P k T).1 v e))
    have pop : ∀ v T, tN T ≤ tN (popP v T).1 := by
      intro v T
      by_cases ho : tOv T
      · rw [popP_o ho]; exact Nat.le_refl _
      · cases hl : tL T v with
        | nil => rw [popP_n ho hl]; exact Nat.le_refl _
        | cons e r => rw [popP_c ho hl]; exact Nat.le_refl _
    have h1 := f T
    unfold actP
    split
    · refine mN_cel ?_
      unfold mapP
      cases ho : (askP R L P k T).2 with
      | none => exact h1
      | some e => exact Nat.le_succ_of_le h1
    split
    · exact mN_cel (tst _ _ _)
    split
    · refine mN_cel ?_
      unfold takP
      split
      · exact Nat.le_refl _
      · exact f (sK T (k + 1))
    split
    · unfold skpP
      split
      · exact h1
      · split
        · exact Nat.le_trans (skl _ _ _ (sB T (k + 1))) (f _)
        · exact skl _ _ _ (sB T (k + 1))
    split
    · refine mN_cel ?_
      unfold whlP
      cases ho : (askP R L P k T).2 with
      | none => exact h1
      | some e =>
        dsimp only
        split
        · rw [wkN]; exact h1
        · split
          · rw [wkN]; exact h1
          · rw [wkN]; exact h1
    split
    · refine mN_cel ?_
      unfold sumP
      cases ho : (askP R L P k T).2 with
      | none => exact h1
      | some e =>
        dsimp only
        rw [tN_sQ, tN_sAd]
        exact Nat.le_succ_of_le h1
    · refine mN_cel ?_
      unfold trnP
      split
      · exact pop _ _
      · exact Nat.le_trans (pil _ _ (sB T (k + 1))) (pop _ _)
