/-! ===== a rule's use ends; what it keeps ===== -/
def mu (f : sA → Bool) : Nat → List sA → Nat
  | _, [] => 0
  | n, A :: L => (if f A = true then n else 0) + mu f (n - 1) L
theorem mu_le (f : sA → Bool) : ∀ (L : List sA) (n m : Nat), n ≤ m → mu f n L ≤ m * L.length := by
  intro L
  induction L with
  | nil => intro n m _; exact Nat.zero_le _
  | cons A L ih =>
    intro n m h
    have := ih (n - 1) m (by omega)
    unfold mu
    rw [List.length_cons, Nat.mul_succ]
    split <;> omega
theorem mu_swap {f : sA → Bool} {A B A' : sA} (hA : f A = true) (hA' : f A' = true) (hB : f B = false) : ∀ (L : List sA) (i n : Nat), L[i]? = some A → L[i + 1]? = some B → i + 1 < n → mu f n ((L.set i B).set (i + 1) A') < mu f n L := by
  intro L
  induction L with
  | nil => intro i n h; simp at h
  | cons C L ih =>
    intro i n h1 h2 hn
    cases i with
    | zero =>
      simp at h1
      subst h1
      cases L with
      | nil => simp at h2
      | cons D L =>
        simp at h2
        subst h2
        simp only [List.set_cons_zero, List.set_cons_succ, mu, hA, hA', hB, if_true, Bool.false_eq_true, if_false]
        omega
    | succ i =>
      simp only [List.getElem?_cons_succ] at h1 h2
      have := ih i (n - 1) h1 h2 (by omega)
      simp only [List.set_cons_succ, mu]
      omega
def nuR (r : Int32) (L : List sA) : Nat := if r = 4 then mu (fun A => decide (kd A ≤ 3)) 10 L else if r = 6 then mu (fun A => decide (kd A = 7)) 10 L else L.length
theorem nuR_le {r : Int32} {L : List sA} (h : L.length ≤ 10) : nuR r L ≤ 100 := by
  unfold nuR
  split
  · have := mu_le (fun A => decide (kd A ≤ 3)) L 10 10 (Nat.le_refl _); omega
  · split
    · have := mu_le (fun A => decide (kd A = 7)) L 10 10 (Nat.le_refl _); omega
    · omega
theorem meant4 {x y : Int32} (h : meantK 4 x y = true) : x ≤ 3 ∧ (y = 7 ∨ y = 8) := by simpa [meantK] using h
theorem meant6 {x y : Int32} (h : meantK 6 x y = true) : x = 7 ∧ y = 8 := by simpa [meantK] using h
theorem meant0 {x y : Int32} (h : meantK 0 x y = true) : x ≤ 3 ∧ y ≤ 3 := by simpa [meantK] using h
theorem meant1 {x y : Int32} (h : meantK 1 x y = true) : (4 ≤ x ∧ x ≤ 6) ∧ 4 ≤ y ∧ y ≤ 6 := by simpa [meantK] using h
theorem meant2 {x y : Int32} (h : meantK 2 x y = true) : x = 7 ∧ y = 7 := by simpa [meantK] using h
theorem meant3 {x y : Int32} (h : meantK 3 x y = true) : x = 8 ∧ y = 8 := by simpa [meantK] using h
/-- the ways in which a rule is used -/
theorem use_c {P : List sA → Prop} {fin : Bool} {r : Int32} {L : List sA} {i : Nat} (hr : 0 ≤ r ∧ r ≤ 7) (h : fitL fin r L i = 0)
    (h7 : ∀ A, r = 7 → L[i]? = some A → P (L.eraseIdx i))
    (h01 : ∀ A B, (r = 0 ∧ kd A ≤ 3 ∧ kd B ≤ 3) ∨ (r = 1 ∧ 4 ≤ kd A ∧ kd A ≤ 6 ∧ 4 ≤ kd B ∧ kd B ≤ 6) → L[i]? = some A → L[i + 1]? = some B → P ((L.set i (A ++ B)).eraseIdx (i + 1)))
    (h2 : ∀ A B, r = 2 → kd A = 7 → kd B = 7 → L[i]? = some A → L[i + 1]? = some B → P ((L.set i (setNu A (if nu B < nu A then nu B else nu A))).eraseIdx (i + 1)))
    (h3 : ∀ A B, r = 3 → kd A = 8 → kd B = 8 → L[i]? = some A → L[i + 1]? = some B → P ((L.set i (setNu A (nu A + nu B))).eraseIdx (i + 1)))
    (h4 : ∀ A B, r = 4 → kd A ≤ 3 → (kd B = 7 ∨ kd B = 8) → L[i]? = some A → L[i + 1]? = some B → P ((L.set i B).set (i + 1) A))
    (h5 : ∀ A B, r = 5 → L[i]? = some A → L[i + 1]? = some B → P ((L.eraseIdx (i + 1)).eraseIdx i))
    (h6 : ∀ A B, r = 6 → kd A = 7 → kd B = 8 → L[i]? = some A → L[i + 1]? = some B → P ((L.set i B).set (i + 1) (setNu A (if nu A - nu B < 0 then 0 else nu A - nu B)))) : P (useL r L i) := by
  by_cases e7 : r = 7
  · subst e7
    rw [useL, if_pos rfl]
    have hi := fit7 h
    exact h7 L[i] rfl (List.getElem?_eq_getElem hi)
  · obtain ⟨A, B, hA, hB, hm, -⟩ := fitN e7 h
    rw [useL, if_neg e7, hA, hB]
    dsimp only
    rcases r_cases hr with rfl | rfl | rfl | rfl | rfl | rfl | rfl | rfl
    · rw [if_pos (Or.inl rfl)]; exact h01 A B (Or.inl ⟨rfl, meant0 hm⟩) hA hB
    · rw [if_pos (Or.inr rfl)]; obtain ⟨⟨a1, a2⟩, a3, a4⟩ := meant1 hm; exact h01 A B (Or.inr ⟨rfl, a1, a2, a3, a4⟩) hA hB
    · rw [if_neg (by decide), if_pos rfl]; exact h2 A B rfl (meant2 hm).1 (meant2 hm).2 hA hB
    · rw [if_neg (by decide), if_neg (by decide), if_pos rfl]; exact h3 A B rfl (meant3 hm).1 (meant3 hm).2 hA hB
    · rw [if_neg (by decide), if_neg (by decide), if_neg (by decide), if_neg (by decide), if_neg (by decide)]; exact h4 A B rfl (meant4 hm).1 (meant4 hm).2 hA hB
    · rw [if_neg (by decide), if_neg (by decide), if_neg (by decide), if_pos rfl]; exact h5 A B rfl hA hB
    · rw [if_neg (by decide), if_neg (by decide), if_neg (by decide), if_neg (by decide), if_pos rfl]; exact h6 A B rfl (meant6 hm).1 (meant6 hm).2 hA hB
    · exact absurd rfl e7
theorem lt_of_some {L : List sA} {i : Nat} {A : sA} (h : L[i]? = some A) : i < L.length := (List.getElem?_eq_some_iff.mp h).1
theorem nuR_lt {fin : Bool} {r : Int32} {L : List sA} {i : Nat} (hr : 0 ≤ r ∧ r ≤ 7) (hl : L.length ≤ 10) (h : fitL fin r L i = 0) : nuR r (useL r L i) < nuR r L := by
  have er : ∀ (X : sA), r ≠ 4 → r ≠ 6 → i + 1 < L.length → nuR r ((L.set i X).eraseIdx (i + 1)) < nuR r L := by
    intro X e4 e6 hi
    unfold nuR
    rw [if_neg e4, if_neg e6, if_neg e4, if_neg e6, List.length_eraseIdx_of_lt (by rw [List.length_set]; exact hi), List.length_set]
    omega
  refine use_c (P := fun L' => nuR r L' < nuR r L) hr h ?_ ?_ ?_ ?_ ?_ ?_ ?_
  · rintro A rfl hA
    have := lt_of_some hA
    show (L.eraseIdx i).length < L.length
    rw [List.length_eraseIdx_of_lt this]; omega
  · intro A B h01 hA hB
    have := lt_of_some hB
    exact er _ (by rcases h01 with ⟨rfl, _⟩ | ⟨rfl, _⟩ <;> decide) (by rcases h01 with ⟨rfl, _⟩ | ⟨rfl, _⟩ <;> decide) this
  · rintro A B rfl _ _ hA hB; exact er _ (by decide) (by decide) (lt_of_some hB)
  · rintro A B rfl _ _ hA hB; exact er _ (by decide) (by decide) (lt_of_some hB)
  · rintro A B rfl k1 k2 hA hB
    have := lt_of_some hB
    refine mu_swap (A := A) (decide_eq_true k1) (decide_eq_true k1) (decide_eq_false (fun e => ?_)) L i 10 hA hB (by omega)
    rcases k2 with k2 | k2 <;> rw [k2] at e <;> revert e <;> decide
  · rintro A B rfl hA hB
    have h1 := lt_of_some hB
    show ((L.eraseIdx (i + 1)).eraseIdx i).length < L.length
    rw [List.length_eraseIdx_of_lt (by rw [List.length_eraseIdx_of_lt h1]; omega), List.length_eraseIdx_of_lt h1]; omega
  · rintro A B rfl k1 k2 hA hB
    have := lt_of_some hB
    refine mu_swap (A := A) (decide_eq_true k1) (decide_eq_true (by rw [setNu_kd]; exact k1)) (decide_eq_false (fun e => ?_)) L i 10 hA hB (by omega)
    rw [k2] at e; revert e; decide
/-- what is to be skipped, in all -/
def skv (A : sA) : Nat := if kd A = 8 then (nu A).toInt.toNat else 0
def skS : List sA → Nat
  | [] => 0
  | A :: L => skv A + skS L
theorem skS_set {X A : sA} : ∀ (L : List sA) (i : Nat), L[i]? = some A → skS (L.set i X) + skv A = skS L + skv X := by
  intro L
  induction L with
  | nil => intro i h; simp at h
  | cons C L ih =>
    intro i h
    cases i with
    | zero => simp at h; subst h; simp only [List.set_cons_zero, skS]; omega
    | succ i => simp only [List.getElem?_cons_succ] at h; have := ih i h; simp only [List.set_cons_succ, skS]; omega
theorem skS_er {A : sA} : ∀ (L : List sA) (i : Nat), L[i]? = some A → skS (L.eraseIdx i) + skv A = skS L := by
  intro L
  induction L with
  | nil => intro i h; simp at h
  | cons C L ih =>
    intro i h
    cases i with
    | zero => simp at h; subst h; simp only [List.eraseIdx_cons_zero, skS]; omega
    | succ i => simp only [List.getElem?_cons_succ] at h; have := ih i h; simp only [List.eraseIdx_cons_succ, skS]; omega
def okL (L : List sA) : Prop := (∀ A ∈ L, okB A) ∧ skS L < 4611686018427387904
theorem okL.ba {L : List sA} {X : sA} {i : Nat} (h : ∀ A ∈ L, okB A) (hX : okB X) : ∀ A ∈ L.set i X, okB A := fun B hB => (List.mem_or_eq_of_mem_set hB).elim (h B) (fun e => by rw [e]; exact hX)
theorem okL.be {L : List sA} {i : Nat} (h : ∀ A ∈ L, okB A) : ∀ A ∈ L.eraseIdx i, okB A := fun B hB => h B (List.mem_of_mem_eraseIdx hB)
theorem nu_set {A : sA} {x : Int64} (h : 1 ≤ A.length) : nu (setNu A x) = x := by
  cases A with
  | nil => simp at h
  | cons q r => rfl
theorem okB_nu {A : sA} {x : Int64} (h : okB A) (hk : kd A = 7 ∨ kd A = 8) (hx : 0 ≤ x) (h7 : kd A = 7 → x ≤ lN 100) : okB (setNu A x) := by
  obtain ⟨⟨a1, a2, a3, a4, a5, a6⟩, a7⟩ := h
  refine ⟨⟨by rw [setNu_len]; exact a1, by rw [setNu_kd]; exact a2, by rw [setNu_kd]; exact a3, fun e => ?_, fun _ => by rw [nu_set a1]; exact hx, fun e => by rw [setNu_kd] at e; rw [nu_set a1]; exact h7 e⟩, fun e => by rw [setNu_kd] at e; rw [setNu_len]; exact a7 e⟩
  rw [setNu_kd] at e
  rcases hk with k | k <;> rw [k] at e <;> exact absurd e (by decide)
theorem kd_app {A B : sA} (h : 1 ≤ A.length) : kd (A ++ B) = kd A := by
  cases A with
  | nil => simp at h
  | cons q r => rfl
theorem okB_app {A B : sA} (hA : okB A) (hB : okB B) (h : (kd A ≤ 3 ∧ kd B ≤ 3) ∨ (4 ≤ kd A ∧ kd A ≤ 6)) : okB (A ++ B) := by
  obtain ⟨⟨a1, a2, a3, a4, a5, a6⟩, a7⟩ := hA
  have n7 : ∀ x : Int32, (x ≤ 3 ∨ x ≤ 6) → ¬ 7 ≤ x := by
    intro x hx h7
    rw [Int32.le_iff_toInt_le, Int32.le_iff_toInt_le] at hx
    rw [Int32.le_iff_toInt_le] at h7
    rw [show (3 : Int32).toInt = 3 from rfl, show (6 : Int32).toInt = 6 from rfl] at hx
    rw [show (7 : Int32).toInt = 7 from rfl] at h7
    omega
  have hk7 : ¬ 7 ≤ kd A := n7 _ (by rcases h with h | h; exact Or.inl h.1; exact Or.inr h.2)
  refine ⟨⟨by rw [List.length_append]; omega, by rw [kd_app a1]; exact a2, by rw [kd_app a1]; exact a3, fun e => ?_, fun e => ?_, fun e => ?_⟩, fun e => ?_⟩
  · rw [kd_app a1] at e
    rcases h with h | h
    · intro q hq
      rcases List.mem_append.mp hq with hq | hq
      · exact a4 e q hq
      · exact hB.1.2.2.2.1 h.2 q hq
    · exact absurd (Int32.le_trans h.1 e) (by decide)
  · rw [kd_app a1] at e
    exact absurd (by rcases e with e | e <;> rw [e] <;> decide) hk7
  · rw [kd_app a1] at e
    exact absurd (by rw [e]; decide) hk7
  · rw [kd_app a1] at e
    exact absurd e hk7
theorem skv_app {A B : sA} (h : 1 ≤ A.length) (h8 : kd A ≠ 8) : skv (A ++ B) = 0 := by unfold skv; rw [kd_app h, if_neg h8]
theorem okL.use {fin : Bool} {r : Int32} {L : List sA} {i : Nat} (hr : 0 ≤ r ∧ r ≤ 7) (h : fitL fin r L i = 0) (hL : okL L) : okL (useL r L i) ∧ skS (useL r L i) ≤ skS L := by
  have red : ∀ L', (∀ A ∈ L', okB A) → skS L' ≤ skS L → okL L' ∧ skS L' ≤ skS L := fun L' h1 h2 => ⟨⟨h1, Nat.lt_of_le_of_lt h2 hL.2⟩, h2⟩
  have two : ∀ A B, L[i]? = some A → L[i + 1]? = some B → skS (L.eraseIdx (i + 1)) + skv B = skS L ∧ skv A ≤ skS (L.eraseIdx (i + 1)) := by
    intro A B hA hB
    have h1 := skS_er L (i + 1) hB
    have h2 := skS_er (A := A) (L.eraseIdx (i + 1)) i (by rw [List.getElem?_eraseIdx, if_pos (by omega)]; exact hA)
    exact ⟨h1, by omega⟩
  have se : ∀ A B X, L[i]? = some A → L[i + 1]? = some B → skS ((L.set i X).eraseIdx (i + 1)) + skv A + skv B = skS L + skv X := by
    intro A B X hA hB
    have h1 := skS_set (X := X) L i hA
    have h2 := skS_er (A := B) (L.set i X) (i + 1) (by rw [List.getElem?_set_ne (by omega)]; exact hB)
    omega
  have sw : ∀ A B X, L[i]? = some A → L[i + 1]? = some B → skS ((L.set i B).set (i + 1) X) + skv A = skS L + skv X := by
    intro A B X hA hB
    have h1 := skS_set (X := B) L i hA
    have h2 := skS_set (A := B) (X := X) (L.set i B) (i + 1) (by rw [List.getElem?_set_ne (by omega)]; exact hB)
    omega
  have mem : ∀ {z : Nat} {A : sA}, L[z]? = some A → okB A := fun hz => hL.1 _ (List.mem_of_getElem? hz)
  refine use_c (P := fun L' => okL L' ∧ skS L' ≤ skS L) hr h ?_ ?_ ?_ ?_ ?_ ?_ ?_
  · intro A _ hA
    have := skS_er L i hA
    exact red _ (okL.be hL.1) (by omega)
  · intro A B h01 hA hB
    have hk : (kd A ≤ 3 ∧ kd B ≤ 3) ∨ (4 ≤ kd A ∧ kd A ≤ 6) := by
      rcases h01 with ⟨_, a1, a2⟩ | ⟨_, a1, a2, _⟩
      · exact Or.inl ⟨a1, a2⟩
      · exact Or.inr ⟨a1, a2⟩
    have h8 : kd A ≠ 8 := fun e => by rw [e] at hk; rcases hk with hk | hk; exact absurd hk.1 (by decide); exact absurd hk.2 (by decide)
    have := se A B (A ++ B) hA hB
    rw [skv_app (mem hA).1.1 h8] at this
    exact red _ (okL.be (okL.ba hL.1 (okB_app (mem hA) (mem hB) hk))) (by omega)
  · intro A B _ kA kB hA hB
    have := se A B (setNu A (if nu B < nu A then nu B else nu A)) hA hB
    rw [show skv (setNu A (if nu B < nu A then nu B else nu A)) = 0 by unfold skv; rw [setNu_kd, kA]; rfl] at this
    refine red _ (okL.be (okL.ba hL.1 (okB_nu (mem hA) (Or.inl kA) ?_ (fun _ => ?_)))) (by omega)
    · split
      · exact (mem hB).1.2.2.2.2.1 (Or.inl kB)
      · exact (mem hA).1.2.2.2.2.1 (Or.inl kA)
    · split
      · exact (mem hB).1.2.2.2.2.2 kB
      · exact (mem hA).1.2.2.2.2.2 kA
  · intro A B _ kA kB hA hB
    obtain ⟨t1, t2⟩ := two A B hA hB
    have nA := (mem hA).1.2.2.2.2.1 (Or.inr kA)
    have nB := (mem hB).1.2.2.2.2.1 (Or.inr kB)
    have vA : skv A = (nu A).toInt.toNat := by unfold skv; rw [if_pos kA]
    have vB : skv B = (nu B).toInt.toNat := by unfold skv; rw [if_pos kB]
    rw [Int64.le_iff_toInt_le, show (0 : Int64).toInt = 0 from rfl] at nA nB
    have hb := hL.2
    have hs : (nu A + nu B).toInt = (nu A).toInt + (nu B).toInt := by
      rw [Int64.toInt_add]
      rw [Int.bmod_eq_of_le (by omega) (by omega)]
    have vX : skv (setNu A (nu A + nu B)) = (nu A).toInt.toNat + (nu B).toInt.toNat := by
      unfold skv
      rw [setNu_kd, if_pos kA, nu_set (mem hA).1.1, hs]
      omega
    have := se A B (setNu A (nu A + nu B)) hA hB
    refine red _ (okL.be (okL.ba hL.1 (okB_nu (mem hA) (Or.inr kA) ?_ (fun e => ?_)))) (by omega)
    · rw [Int64.le_iff_toInt_le, hs, show (0 : Int64).toInt = 0 from rfl]; omega
    · rw [kA] at e; exact absurd e (by decide)
  · intro A B _ _ _ hA hB
    have := sw A B A hA hB
    exact red _ (okL.ba (okL.ba hL.1 (mem hB)) (mem hA)) (by omega)
  · intro A B _ hA hB
    obtain ⟨t1, t2⟩ := two A B hA hB
    have h2 := skS_er (A := A) (L.eraseIdx (i + 1)) i (by rw [List.getElem?_eraseIdx, if_pos (by omega)]; exact hA)
    exact red _ (okL.be (okL.be hL.1)) (by omega)
  · intro A B _ kA kB hA hB
    have nA := (mem hA).1.2.2.2.2.1 (Or.inl kA)
    have nB := (mem hB).1.2.2.2.2.1 (Or.inr kB)
    have hA1 := (mem hA).1.2.2.2.2.2 kA
    have := sw A B (setNu A (if nu A - nu B < 0 then 0 else nu A - nu B)) hA hB
    rw [show skv (setNu A (if nu A - nu B < 0 then 0 else nu A - nu B)) = 0 by unfold skv; rw [setNu_kd, kA]; rfl] at this
    rw [sub_e nA nB] at this ⊢
    refine red _ (okL.ba (okL.ba hL.1 (mem hB)) (okB_nu (mem hA) (Or.inl kA) ?_ (fun _ => ?_))) (by omega)
    all_goals rw [Int64.le_iff_toInt_le] at nA nB hA1 ⊢
    all_goals rw [show (0 : Int64).toInt = 0 from rfl] at nA nB
    all_goals have hd : (nu A - nu B).toInt = (nu A).toInt - (nu B).toInt := (by
      have h1 := Int64.toInt_lt (nu A)
      have h2 := Int64.toInt_lt (nu B)
      rw [Int64.toInt_sub]
      rw [Int.bmod_eq_of_le (by omega) (by omega)])
    · split
      · exact Int.le_refl _
      · rename_i hn
        rw [Int64.le_iff_toInt_le] at hn
        rw [hd, show (0 : Int64).toInt = 0 from rfl]; omega
    · split
      · rw [show (0 : Int64).toInt = 0 from rfl]; omega
      · rw [hd]; omega
theorem okL.up {fin : Bool} {r : Int32} (hr : 0 ≤ r ∧ r ≤ 7) : ∀ (n : Nat) {L : List sA}, okL L → okL (upL fin r n L).2 ∧ skS (upL fin r n L).2 ≤ skS L := by
  intro n
  induction n with
  | zero => intro L h; exact ⟨h, Nat.le_refl _⟩
  | succ n ih =>
    intro L h
    unfold upL
    split
    · exact ⟨h, Nat.le_refl _⟩
    · rename_i i hi
      obtain ⟨u1, u2⟩ := h.use hr (ffL_fit hi).2.1
      obtain ⟨v1, v2⟩ := ih u1
      exact ⟨v1, Nat.le_trans v2 u2⟩
theorem okL.fu {fin : Bool} : ∀ {rs : List Int32} {L : List sA}, (∀ r ∈ rs, 0 ≤ r ∧ r ≤ 7) → okL L → okL (fuL fin rs L).2 ∧ skS (fuL fin rs L).2 ≤ skS L := by
  intro rs
  induction rs with
  | nil => intro L _ h; exact ⟨h, Nat.le_refl _⟩
  | cons q rs ih =>
    intro L hr h
    obtain ⟨u1, u2⟩ := okL.up (fin := fin) (hr q List.mem_cons_self) 1000 h
    obtain ⟨v1, v2⟩ := ih (fun r hr' => hr r (List.mem_cons_of_mem _ hr')) u1
    exact ⟨v1, Nat.le_trans v2 u2⟩
