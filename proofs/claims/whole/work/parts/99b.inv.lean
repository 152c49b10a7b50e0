/-! ===== what holds of the abstract state after c calls ===== -/
def Inv (c : Nat) (S : sS) : Prop := okI (S.1, S.2.1, S.2.2.1) ∧ (∀ p, p < 4 → okP (S.2.2.2.1 p) ∧ skS (S.2.2.2.1 p).2.2.2.2 ≤ 100 * c) ∧ (∀ r ∈ S.2.2.2.2.1, isU r) ∧ S.2.2.2.2.2.2.1.1 ≤ c ∧ S.2.2.2.2.2.2.1.2.2.2 ≤ 800 * S.2.2.2.2.2.2.1.1
theorem Inv.mono {c c' : Nat} {S : sS} (h : Inv c S) (hc : c ≤ c') : Inv c' S := ⟨h.1, fun p hp => ⟨(h.2.1 p hp).1, by have := (h.2.1 p hp).2; omega⟩, h.2.2.1, by have := h.2.2.2.1; omega, h.2.2.2.2⟩
theorem Inv.s {c : Nat} {S : sS} (h : Inv c S) : Inv (c + 1) S := h.mono (Nat.le_succ _)
theorem Inv.ne {c : Nat} {S : sS} (h : Inv c S) : ∀ p, p < 4 → neL (S.2.2.2.1 p).2.2.2.2 := fun p hp => (h.2.1 p hp).1.ne
theorem Inv.src {c : Nat} {S : sS} (h : Inv c S) : srcOk S := fun p hp => by
  rcases (h.2.1 p hp).1.1 with q | q
  · exact Or.inl q.1
  · exact Or.inr q.1
theorem Inv.okR {c : Nat} {S : sS} (h : Inv c S) : ∀ j, j < 4 → okR (S.1, S.2.1, S.2.2.1) (S.2.2.2.1 j).2.2.2.2 (S.2.2.2.1 j) := fun j hj => by
  refine ⟨fun r hr => (h.1 r hr).2, fun A hA => ((h.2.1 j hj).1.2 A hA).1, ?_⟩
  rcases (h.2.1 j hj).1.1 with q | q
  · exact Or.inl q.1
  · exact Or.inr q
theorem Inv.okL {c : Nat} {S : sS} (h : Inv c S) (hc : c ≤ 1000000) : ∀ j, j < 4 → okP (S.2.2.2.1 j) ∧ okL (S.2.2.2.1 j).2.2.2.2 := fun j hj => ⟨(h.2.1 j hj).1, (h.2.1 j hj).1.2, by have := (h.2.1 j hj).2; omega⟩
theorem Inv.pipe {c : Nat} {S : sS} {j : Nat} {P : sP} (h : Inv c S) (hP : okP P) (hs : skS P.2.2.2.2 ≤ 100 * (c + 1)) : Inv (c + 1) (S.1, S.2.1, S.2.2.1, va_up S.2.2.2.1 j P, S.2.2.2.2) := by
  refine ⟨h.1, fun p hp => ?_, h.2.2.1, Nat.le_succ_of_le h.2.2.2.1, h.2.2.2.2⟩
  dsimp only
  by_cases e : p = j
  · subst e; rw [va_s]; exact ⟨hP, hs⟩
  · rw [va_n e]; exact ⟨(h.2.1 p hp).1, by have := (h.2.1 p hp).2; omega⟩
theorem Inv.row {c : Nat} {S : sS} {r k n : Int32} (h : Inv c S) : Inv (c + 1) (oRow S r k n).1 := by
  unfold oRow
  split
  · exact h.s
  · split
    · exact h.s
    · rename_i h1 h2
      have h2' := Classical.not_not.mp h2
      refine ⟨fun q hq => ?_, h.s.2⟩
      dsimp only
      by_cases e : q = r.toNatClampNeg
      · subst e
        rw [va_s]
        split
        · exact ⟨by decide, by decide⟩
        · exact h2'.2
      · rw [va_n e]; exact h.1 q hq
theorem Inv.set {c : Nat} {S : sS} {r i : Int32} {v : Int64} (h : Inv c S) : Inv (c + 1) (oSet S r i v).1 := by
  unfold oSet
  split
  · exact ⟨h.1, h.s.2⟩
  · exact h.s
theorem Inv.range {c : Nat} {S : sS} {p : Int32} {x y : Int64} {n : Int32} (h : Inv c S) : Inv (c + 1) (oRange S p x y n).1 := by
  unfold oRange
  split
  · exact h.s
  · split
    · exact h.s
    · rename_i h1 h2
      exact h.pipe ⟨Or.inl ⟨rfl, Classical.not_not.mp h2⟩, fun A hA => absurd hA List.not_mem_nil⟩ (Nat.zero_le _)
theorem Inv.from {c : Nat} {S : sS} {p r : Int32} (h : Inv c S) : Inv (c + 1) (oFrom S p r).1 := by
  unfold oFrom
  split
  · rename_i h1
    obtain ⟨z, hz, hq⟩ := isR_n h1.2
    exact h.pipe ⟨Or.inr ⟨rfl, z, hz, hq⟩, fun A hA => absurd hA List.not_mem_nil⟩ (Nat.zero_le _)
  · exact h.s
theorem Inv.twin {c : Nat} {S : sS} {p q : Int32} (h : Inv c S) : Inv (c + 1) (oTwin S p q).1 := by
  unfold oTwin
  split
  · rename_i h1
    obtain ⟨z, hz, hq⟩ := isP_n h1.2
    have := h.2.1 q.toNatClampNeg (by rw [hq, nI_cl (by omega)]; exact hz)
    exact h.pipe this.1 (by have := this.2; omega)
  · exact h.s
theorem skS_app {A : sA} : ∀ (L : List sA), skS (L ++ [A]) = skS L + skv A := by
  intro L
  induction L with
  | nil => simp [skS]
  | cons B L ih => simp only [List.cons_append, skS, ih]; omega
theorem num3 {x : Int64} (h : numOkB 3 x = true) : ∃ r, r < 6 ∧ x = lN r := by
  have h' : (!decide (x < 0) && !decide (6 ≤ x)) = true := h
  simp at h'
  obtain ⟨h1, h2⟩ := h'
  rw [Int64.le_iff_toInt_le] at h1
  rw [Int64.lt_iff_toInt_lt] at h2
  rw [show (0 : Int64).toInt = 0 from rfl] at h1
  rw [show (6 : Int64).toInt = 6 from rfl] at h2
  refine ⟨x.toInt.toNat, by omega, ?_⟩
  apply Int64.toInt_inj.mp
  rw [lN_toInt (by omega)]
  omega
theorem num7 {k : Int32} {x : Int64} (hk : k = 7 ∨ k = 8) (h : numOkB k x = true) : 0 ≤ x ∧ x ≤ lN 100 := by
  have h' : (!decide (x < 0) && !decide (100 < x)) = true := by
    rcases hk with rfl | rfl <;> exact h
  simp at h'
  exact ⟨h'.1, h'.2⟩
theorem kz_i {k : Int32} {x : Int64} (h : k ≤ 3 ∨ (k = 7 ∨ k = 8)) : kz k x = x := by
  unfold kz
  rw [if_neg]
  rintro (e | e | e) <;> subst e <;> revert h <;> decide
theorem Inv.act {c : Nat} {S : sS} {p k : Int32} {x : Int64} (h : Inv c S) : Inv (c + 1) (oAct S p k x).1 := by
  unfold oAct
  split
  · exact h.s
  · split
    · exact h.s
    · split
      · exact h.s
      · rename_i h1 h2 h3
        obtain ⟨hk, hn⟩ := Classical.not_not.mp h2
        obtain ⟨z, hz, hq⟩ := isP_n (Classical.not_not.mp h1)
        have hp := h.2.1 p.toNatClampNeg (by rw [hq, nI_cl (by omega)]; exact hz)
        have hval : ∀ y : Int64, (k ≤ 3 → y = x) → (k = 7 ∨ k = 8 → y = x) → okB [(k, y)] ∧ skv [(k, y)] ≤ 100 := by
          intro y hy hy7
          refine ⟨⟨⟨by simp, hk.1, hk.2, fun q => ?_, fun q => ?_, fun q => ?_⟩, fun _ => rfl⟩, ?_⟩
          · intro w hw
            simp at hw
            subst hw
            have q' : k ≤ 3 := q
            obtain ⟨n, hn', hq'⟩ := vp_of (n := 4) hk.1 (Int32.lt_of_le_of_lt q' (by decide)) (by decide)
            rcases (show n = 0 ∨ n = 1 ∨ n = 2 ∨ n = 3 by omega) with rfl | rfl | rfl | rfl
            · exact Or.inl (Or.inl hq')
            · exact Or.inl (Or.inr (Or.inl hq'))
            · exact Or.inl (Or.inr (Or.inr hq'))
            · have hq3 : k = 3 := hq'
              refine Or.inr ⟨hq3, ?_⟩
              rw [hq3] at hn
              obtain ⟨r, hr, hx⟩ := num3 hn
              exact ⟨r, hr, by show y = lN r; rw [hy q']; exact hx⟩
          · show 0 ≤ y
            rw [hy7 q]; exact (num7 q hn).1
          · show y ≤ lN 100
            rw [hy7 (Or.inl q)]; exact (num7 (Or.inl q) hn).2
          · unfold skv
            split
            · rename_i q
              have q' : k = 8 := q
              show y.toInt.toNat ≤ 100
              rw [hy7 (Or.inr q')]
              have := (num7 (Or.inr q') hn).2
              rw [Int64.le_iff_toInt_le, lN_toInt (by omega)] at this
              omega
            · exact Nat.zero_le _
        obtain ⟨v1, v2⟩ := hval (kz k x) (fun q => kz_i (Or.inl q)) (fun q => kz_i (Or.inr q))
        refine h.pipe ⟨hp.1.1, fun A hA => ?_⟩ ?_
        · rcases List.mem_append.mp hA with hA | hA
          · exact hp.1.2 A hA
          · simp at hA; subst hA; exact v1
        · show skS (_ ++ [_]) ≤ _
          rw [skS_app]
          have := hp.2
          omega
theorem Inv.phase {c : Nat} {S : sS} {r : Int32} (h : Inv c S) : Inv (c + 1) (oPhase S r).1 := by
  unfold oPhase
  split
  · exact ⟨h.1, h.s.2.1, fun q hq => absurd hq List.not_mem_nil, h.s.2.2.2⟩
  · split
    · exact h.s
    · split
      · exact h.s
      · rename_i h1 h2 h3
        refine ⟨h.1, h.s.2.1, fun q hq => ?_, h.s.2.2.2⟩
        rcases List.mem_append.mp hq with hq | hq
        · exact h.2.2.1 q hq
        · simp at hq; subst hq; exact Classical.not_not.mp h2
theorem Inv.fuse {c : Nat} {S : sS} {p : Int32} (h : Inv c S) (hc : c ≤ 1000000) : Inv (c + 1) (oFuse S p).1 := by
  unfold oFuse
  split
  · exact h.s
  · rename_i h1
    obtain ⟨z, hz, hq⟩ := isP_n (Classical.not_not.mp h1)
    have hz' : p.toNatClampNeg < 4 := by rw [hq, nI_cl (by omega)]; exact hz
    have hp := h.2.1 p.toNatClampNeg hz'
    have hl := (h.okL hc p.toNatClampNeg hz').2
    obtain ⟨u1, u2⟩ := okL.fu (fin := (decide ((S.2.2.2.1 p.toNatClampNeg).1 = 1) || decide ((S.2.2.2.1 p.toNatClampNeg).2.2.2.1 ≠ -1))) (rs := S.2.2.2.2.1) h.2.2.1 hl
    exact h.pipe ⟨hp.1.1, u1.1⟩ (by have := hp.2; show skS (fuL _ _ _).2 ≤ _; omega)
theorem Inv.run {c : Nat} {S : sS} {p en : Int32} (h : Inv c S) : Inv (c + 1) (oRun S p en).1 := by
  unfold oRun
  split
  · exact h.s
  · split
    · exact h.s
    · rename_i h1 h2
      obtain ⟨z, hz, hq⟩ := isP_n (Classical.not_not.mp h1)
      have hz' : p.toNatClampNeg < 4 := by rw [hq, nI_cl (by omega)]; exact hz
      have hp := h.2.1 p.toNatClampNeg hz'
      obtain ⟨k1, k2, k3, k4⟩ := rn_k (R := (S.1, S.2.1, S.2.2.1)) (P := S.2.2.2.1 p.toNatClampNeg) (en := en) (fun A hA => (hp.1.2 A hA).1)
      have k5 := cC_run (R := (S.1, S.2.1, S.2.2.1)) (L := (S.2.2.2.1 p.toNatClampNeg).2.2.2.2) (P := S.2.2.2.1 p.toNatClampNeg) (en := en)
      have h4 := h.2.2.2.1
      have h5 := h.2.2.2.2
      refine ⟨h.1, h.s.2.1, h.2.2.1, ?_, ?_⟩
      · show (bkP _ _ _).1 ≤ c + 1
        unfold bkP
        repeat' split
        all_goals (show _ + 1 ≤ c + 1; omega)
      · show (bkP _ _ _).2.2.2 ≤ 800 * (bkP _ _ _).1
        unfold bkP
        repeat' split
        · exact Nat.le_trans h5 (Nat.mul_le_mul_left _ (Nat.le_succ _))
        · exact Nat.le_trans h5 (Nat.mul_le_mul_left _ (Nat.le_succ _))
        · exact Nat.add_le_add h5 (by omega : tC _ ≤ 800)
