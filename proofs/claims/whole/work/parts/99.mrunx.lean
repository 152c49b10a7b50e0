/-! ===== the reference: run ===== -/
/-- cells against asks -/
def cC (T : sT) (r : sT × Option Nat) : Prop := tA T ≤ tA r.1 ∧ tC T ≤ tC r.1 ∧ (r.2 = none → tC r.1 + 2 * tA T ≤ tC T + 2 * tA r.1) ∧ (r.2 ≠ none → tC r.1 + 2 * tA T + 1 ≤ tC T + 2 * tA r.1)
def cC0 (T T' : sT) : Prop := tA T ≤ tA T' ∧ tC T ≤ tC T' ∧ tC T' + 2 * tA T ≤ tC T + 2 * tA T'
theorem cC0.tr {T T1 T2 : sT} (h : cC0 T T1) (h' : cC0 T1 T2) : cC0 T T2 := by
  obtain ⟨a1, a2, a3⟩ := h
  obtain ⟨b1, b2, b3⟩ := h'
  exact ⟨Nat.le_trans a1 b1, Nat.le_trans a2 b2, by omega⟩
theorem cC.z {T : sT} {r : sT × Option Nat} (h : cC T r) : cC0 T r.1 := by
  obtain ⟨h1, h2, h3, h4⟩ := h
  refine ⟨h1, h2, ?_⟩
  cases ho : r.2 with
  | none => exact h3 ho
  | some e => have := h4 (by rw [ho]; simp); omega
theorem cC_wk {R : sR} {L : List sA} {e : Nat} {T T1 : sT} (h : cC0 T T1) : cC0 T (wkT R L e T1) := h
theorem cC_tst {R : sR} {L : List sA} {A : sA} {f : sF} (hf : ∀ T, cC T (f T)) : ∀ (n : Nat) (T : sT), cC0 T (tstP R L A f n T).1 := by
  intro n
  induction n with
  | zero => intro T; exact ⟨Nat.le_refl _, Nat.le_refl _, Nat.le_refl _⟩
  | succ n ih =>
    intro T
    have h1 := (hf T).z
    unfold tstP
    split
    · exact h1
    · split
      · exact cC_wk h1
      · split
        · exact cC_wk h1
        · exact (cC_wk h1).tr (ih _)
theorem cC_skL {x : Int64} {f : sF} (hf : ∀ T, cC T (f T)) : ∀ (m n : Nat) (T : sT), cC0 T (skL x f m n T).1 := by
  intro m
  induction m with
  | zero => intro n T; exact ⟨Nat.le_refl _, Nat.le_refl _, Nat.le_refl _⟩
  | succ m ih =>
    intro n T
    have h1 := (hf T).z
    unfold skL
    split
    · split
      · exact h1
      · obtain ⟨a1, a2, a3⟩ := h1
        obtain ⟨b1, b2, b3⟩ := ih (n + 1) (f T).1
        exact ⟨Nat.le_trans a1 b1, Nat.le_trans a2 b2, by omega⟩
    · exact ⟨Nat.le_refl _, Nat.le_refl _, Nat.le_refl _⟩
theorem cC_pil {v : Nat} {f : sF} (hf : ∀ T, cC T (f T)) : ∀ (n : Nat) (T : sT), cC0 T (pilP v f n T) := by
  intro n
  induction n with
  | zero => intro T; exact ⟨Nat.le_refl _, Nat.le_refl _, Nat.le_refl _⟩
  | succ n ih =>
    intro T
    have h1 := hf T
    unfold pilP
    split
    · exact h1.z
    · rename_i e ho
      obtain ⟨a1, a2, a3, a4⟩ := h1
      have a5 := a4 (by rw [ho]; simp)
      obtain ⟨b1, b2, b3⟩ := ih (sPush (f T).1 v e)
      rw [tA_sPush, tC_sPush] at b3
      rw [tA_sPush] at b1
      rw [tC_sPush] at b2
      exact ⟨Nat.le_trans a1 b1, by omega, by omega⟩
/-- one more cell for what an act hands on -/
theorem cC_cel {T : sT} {r : sT × Option Nat} (h : cC0 T r.1) : tA T ≤ tA (celP r).1 ∧ tC T ≤ tC (celP r).1 ∧ ((celP r).2 = none → tC (celP r).1 + 2 * tA T ≤ tC T + 2 * tA (celP r).1) ∧ tC (celP r).1 + 2 * tA T ≤ tC T + 2 * tA (celP r).1 + 1 := by
  obtain ⟨h1, h2, h3⟩ := h
  unfold celP
  split
  · exact ⟨h1, h2, fun _ => h3, by omega⟩
  · exact ⟨h1, by rw [tC_sCl]; omega, fun q => (by cases q), by rw [tC_sCl, tA_sCl]; omega⟩
theorem cC_ent {g : sF} (h : ∀ T, tA T ≤ tA (g T).1 ∧ tC T ≤ tC (g T).1 ∧ tC (g T).1 + 2 * tA T ≤ tC T + 2 * tA (g T).1 + 1) (T : sT) : cC T (entP g T) := by
  unfold entP
  by_cases ho : tOv T
  · rw [if_pos ho]; exact ⟨Nat.le_refl _, Nat.le_refl _, fun _ => Nat.le_refl _, fun q => absurd rfl q⟩
  · rw [if_neg ho]
    split
    · exact ⟨Nat.le_refl _, Nat.le_refl _, fun _ => Nat.le_refl _, fun q => absurd rfl q⟩
    · obtain ⟨a1, a2, a3⟩ := h (sAk T)
      rw [tA_sAk] at a1 a3
      rw [tC_sAk] at a2 a3
      exact ⟨by omega, a2, fun _ => by omega, fun _ => by omega⟩
theorem cC_ask {R : sR} {L : List sA} {P : sP} : ∀ (k : Nat) (T : sT), cC T (askP R L P k T) := by
  intro k
  induction k with
  | zero =>
    refine cC_ent (fun T => ?_)
    unfold srcP
    repeat' split
    all_goals exact ⟨Nat.le_refl _, Nat.le_refl _, Nat.le_succ _⟩
  | succ k ih =>
    refine cC_ent (fun T => ?_)
    have z := fun T => (ih T).z
    have fin : ∀ r : sT × Option Nat, cC0 T r.1 → tA T ≤ tA (celP r).1 ∧ tC T ≤ tC (celP r).1 ∧ tC (celP r).1 + 2 * tA T ≤ tC T + 2 * tA (celP r).1 + 1 := fun r h => ⟨(cC_cel h).1, (cC_cel h).2.1, (cC_cel h).2.2.2⟩
    have fin0 : ∀ T', cC0 T T' → tA T ≤ tA T' ∧ tC T ≤ tC T' ∧ tC T' + 2 * tA T ≤ tC T + 2 * tA T' + 1 := fun T' h => ⟨h.1, h.2.1, by have := h.2.2; omega⟩
    unfold actP
    split
    · refine fin _ ?_
      unfold mapP
      split
      · exact z T
      · exact z T
    split
    · exact fin _ (cC_tst ih _ _)
    split
    · refine fin _ ?_
      unfold takP
      split
      · exact ⟨Nat.le_refl _, Nat.le_refl _, Nat.le_refl _⟩
      · exact z (sK T (k + 1))
    split
    · refine fin0 _ ?_
      unfold skpP
      have s1 := cC_skL (x := nu (L.getD k [])) ih 401 0 (sB T (k + 1))
      rw [show cC0 (sB T (k + 1)) = cC0 T from rfl] at s1
      split
      · exact z T
      · split
        · obtain ⟨a1, a2, a3⟩ := s1
          obtain ⟨b1, b2, b3⟩ := z (skL (nu (L.getD k [])) (askP R L P k) 401 0 (sB T (k + 1))).1
          exact ⟨Nat.le_trans a1 b1, Nat.le_trans a2 b2, by omega⟩
        · exact s1
    split
    · refine fin _ ?_
      unfold whlP
      split
      · exact z T
      · split
        · exact cC_wk (z T)
        · split
          · exact cC_wk (z T)
          · exact cC_wk (z T)
    split
    · refine fin _ ?_
      unfold sumP
      split
      · exact z T
      · exact z T
    · refine fin _ ?_
      have pop : ∀ T', cC0 T T' → cC0 T (popP (k + 1) T').1 := by
        intro T' h
        unfold popP
        split
        · exact h
        · exact h
      unfold trnP
      split
      · exact pop T ⟨Nat.le_refl _, Nat.le_refl _, Nat.le_refl _⟩
      · have s1 := cC_pil (v := k + 1) ih 401 (sB T (k + 1))
        rw [show cC0 (sB T (k + 1)) = cC0 T from rfl] at s1
        exact pop _ s1
theorem cC_gol {R : sR} {L : List sA} {P : sP} {en : Int32} : ∀ (m : Nat) (T : sT) (g : Nat) (la : Option Nat) (x : Int64), cC0 T (golP R L P en m T g la x).1 := by
  intro m
  induction m with
  | zero => intro T g la x; exact ⟨Nat.le_refl _, Nat.le_refl _, Nat.le_refl _⟩
  | succ m ih =>
    intro T g la x
    have h1 := (cC_ask (R := R) (L := L) (P := P) L.length T).z
    unfold golP
    split
    · exact h1
    · rename_i e ho
      have h2 : cC0 T (enP R L en (askP R L P L.length T).1 e x).1 := by
        unfold enP
        repeat' split
        all_goals first | exact h1 | exact cC_wk h1
      split
      · exact h2
      · obtain ⟨a1, a2, a3⟩ := h2
        obtain ⟨b1, b2, b3⟩ := ih (enP R L en (askP R L P L.length T).1 e x).1 (g + 1) (some e) (enP R L en (askP R L P L.length T).1 e x).2.1
        exact ⟨Nat.le_trans a1 b1, Nat.le_trans a2 b2, by omega⟩
theorem cC_run {R : sR} {L : List sA} {P : sP} {en : Int32} : tC (rnP R L P en).1 ≤ 2 * tA (rnP R L P en).1 := by
  have h1 := cC_gol (R := R) (L := L) (P := P) (en := en) 401 T0 0 none 0
  have h2 : cC0 T0 (rnP R L P en).1 := by
    unfold rnP finP lstP
    dsimp only
    by_cases h : en = 3 ∧ ¬ tOv (golP R L P en 401 T0 0 none 0).1
    · rw [if_pos h]
      split
      · exact h1
      · split
        · exact cC_wk h1
        · exact cC_wk h1
    · rw [if_neg h]; exact h1
  have h3 := h2.2.2
  rw [show tC T0 = 0 from rfl, show tA T0 = 0 from rfl] at h3
  omega
/-- spent or faulty, never both -/
def sfP (T : sT) : Prop := tS T = false ∨ tF T = 0
theorem sf_of {T T' : sT} (h : sfP T) (h1 : tS T' = tS T) (h2 : tF T' = tF T) : sfP T' := by unfold sfP at h ⊢; rw [h1, h2]; exact h
theorem sf_wk {R : sR} {L : List sA} {e : Nat} {T : sT} (h : tS T = false) : sfP (wkT R L e T) := Or.inl (tS_wkT.trans h)
def okS (L : List sA) (j : Nat) (f : sF) : Prop := ∀ T, IT L j T → sfP T → sfP (f T).1
theorem sf_cel {r : sT × Option Nat} (h : sfP r.1) : sfP (celP r).1 := by
  unfold celP
  split
  · exact h
  · exact sf_of h (tS_sCl _) (tF_sCl _)
theorem sf_tst {R : sR} {L : List sA} {A : sA} {j : Nat} {f : sF} (hf : okF L j f) (hs : okS L j f) : ∀ (n : Nat) (T : sT), IT L j T → sfP T → sfP (tstP R L A f n T).1 := by
  intro n
  induction n with
  | zero => intro T _ h; exact h
  | succ n ih =>
    intro T hI h
    unfold tstP
    cases ho : (f T).2 with
    | none => exact hs T hI h
    | some e =>
      obtain ⟨c1, c2, c3, c4⟩ := (hf T hI).1.2.2 e ho
      dsimp only
      split
      · exact sf_wk c2
      · split
        · exact sf_wk c2
        · exact ih _ ((hf T hI).1.1.wk (R := R) c1).1 (sf_wk c2)
theorem sf_skL {L : List sA} {j : Nat} {x : Int64} {f : sF} (hf : okF L j f) (hs : okS L j f) : ∀ (m n : Nat) (T : sT), IT L j T → sfP T → sfP (skL x f m n T).1 ∧ IT L j (skL x f m n T).1 := by
  intro m
  induction m with
  | zero => intro n T hI h; exact ⟨h, hI⟩
  | succ m ih =>
    intro n T hI h
    unfold skL
    split
    · cases ho : (f T).2 with
      | none => exact ⟨hs T hI h, (hf T hI).1.1⟩
      | some e => exact ih _ _ (hf T hI).1.1 (hs T hI h)
    · exact ⟨h, hI⟩
theorem sf_pil {L : List sA} {j v : Nat} {f : sF} (hf : okF L j f) (hs : okS L j f) : ∀ (n : Nat) (T : sT), IT L j T → sfP T → sfP (pilP v f n T) := by
  intro n
  induction n with
  | zero => intro T _ h; exact h
  | succ n ih =>
    intro T hI h
    unfold pilP
    cases ho : (f T).2 with
    | none => exact hs T hI h
    | some e =>
      obtain ⟨c1, c2, c3, c4⟩ := (hf T hI).1.2.2 e ho
      exact ih _ ((hf T hI).1.1.P c1 c4) (sf_of (hs T hI h) (tS_sPush _ _ _) (tF_sPush _ _ _))
theorem sf_pop {v : Nat} {T : sT} (h : sfP T) : sfP (popP v T).1 := by
  unfold popP
  split
  · exact h
  · exact sf_of h (tS_sPop _ _ _) (tF_sPop _ _ _)
theorem sf_ask {R : sR} {L : List sA} {P : sP} (hL : ∀ A ∈ L, okA A) : ∀ (k j : Nat), k ≤ L.length → okS L j (askP R L P k) := by
  have ent : ∀ (j : Nat) (g : sF), (∀ T, IT L (j + 1) T → ¬ tOv T → sfP (g T).1) → okS L j (entP g) := by
    intro j g h T hI hs
    unfold entP
    by_cases ho : tOv T
    · rw [if_pos ho]; exact hs
    · rw [if_neg ho]
      split
      · exact Or.inr (tOv_n ho).2
      · rename_i h4
        exact h (sAk T) (hI.ak (by omega)) (nov ho (tS_sAk T) (tF_sAk T))
  intro k
  induction k with
  | zero =>
    intro j _
    refine ent j _ (fun T hI ho => ?_)
    have h0 : sfP T := Or.inl (tOv_n ho).1
    unfold srcP
    repeat' split
    all_goals exact Or.inl (tOv_n ho).1
  | succ k ih =>
    intro j hk
    have hA : L[k]? = some (L.getD k []) := by rw [List.getD_eq_getElem?_getD, List.getElem?_eq_getElem (by omega)]; rfl
    have hok := hL _ (List.mem_of_getElem? hA)
    refine ent j _ (fun T hI ho => ?_)
    have hs : sfP T := Or.inl (tOv_n ho).1
    have hf := gd_ask (R := R) (P := P) hL k (j + 1) (by omega)
    have hS := ih (j + 1) (by omega)
    unfold actP
    split
    · refine sf_cel ?_
      unfold mapP
      split
      · exact hS T hI hs
      · exact sf_of (hS T hI hs) (tS_sAd _ _) (tF_sAd _ _)
    split
    · exact sf_cel (sf_tst hf hS _ _ hI hs)
    split
    · refine sf_cel ?_
      unfold takP
      split
      · exact hs
      · exact hS _ (hI.K (hok.2.2.2.2.2 (by assumption)) (by assumption)) (sf_of hs (tS_sK _ _) (tF_sK _ _))
    split
    · unfold skpP
      have s1 := sf_skL (x := nu (L.getD k [])) hf hS 401 0 (sB T (k + 1)) (IT_B hI) (sf_of hs (tS_sB _ _) (tF_sB _ _))
      split
      · exact hS T hI hs
      · split
        · exact hS _ s1.2 s1.1
        · exact s1.1
    split
    · refine sf_cel ?_
      unfold whlP
      cases hq : (askP R L P k T).2 with
      | none => exact hS T hI hs
      | some e =>
        obtain ⟨c1, c2, c3, c4⟩ := (hf T hI).1.2.2 e hq
        dsimp only
        split
        · exact sf_wk c2
        · split
          · exact sf_wk c2
          · exact sf_wk c2
    split
    · refine sf_cel ?_
      unfold sumP
      split
      · exact hS T hI hs
      · exact sf_of (sf_of (hS T hI hs) (tS_sAd _ _) (tF_sAd _ _)) (tS_sQ _ _ _) (tF_sQ _ _ _)
    · refine sf_cel ?_
      unfold trnP
      split
      · exact sf_pop hs
      · exact sf_pop (sf_pil hf hS _ _ (IT_B hI) (sf_of hs (tS_sB _ _) (tF_sB _ _)))
theorem gol_k {R : sR} {L : List sA} {P : sP} {en : Int32} (hL : ∀ A ∈ L, okA A) : ∀ (m : Nat) (T : sT) (g : Nat) (la : Option Nat) (x : Int64), IT L 0 T → sfP T → (∀ e, la = some e → e < tN T) → IT L 0 (golP R L P en m T g la x).1 ∧ sfP (golP R L P en m T g la x).1 ∧ ∀ e, (golP R L P en m T g la x).2.2.1 = some e → e < tN (golP R L P en m T g la x).1 := by
  intro m
  induction m with
  | zero => intro T g la x h1 h2 h3; exact ⟨h1, h2, h3⟩
  | succ m ih =>
    intro T g la x h1 h2 h3
    have hgd := gd_ask (R := R) (P := P) hL L.length 0 (Nat.le_refl _) T h1
    have hsf := sf_ask (R := R) (P := P) hL L.length 0 (Nat.le_refl _) T h1 h2
    unfold golP
    cases ho : (askP R L P L.length T).2 with
    | none => exact ⟨hgd.1.1, hsf, fun e he => Nat.lt_of_lt_of_le (h3 e he) (mN_ask L.length T)⟩
    | some e =>
      obtain ⟨c1, c2, c3, c4⟩ := hgd.1.2.2 e ho
      obtain ⟨k1, k2⟩ := IT_en (R := R) (en := en) (x := x) hgd.1.1 c1
      have hse : sfP (enP R L en (askP R L P L.length T).1 e x).1 := by
        unfold enP
        repeat' split
        all_goals first | exact hsf | exact sf_wk c2
      dsimp only
      split
      · exact ⟨k1, hse, fun e' he' => by cases he'; rw [k2]; exact c1⟩
      · exact ih _ _ _ _ k1 hse (fun e' he' => by cases he'; rw [k2]; exact c1)
theorem rn_k {R : sR} {L : List sA} {P : sP} {en : Int32} (hL : ∀ A ∈ L, okA A) : tA (rnP R L P en).1 ≤ 400 ∧ tF (rnP R L P en).1 ≤ 4 ∧ sfP (rnP R L P en).1 ∧ (rnP R L P en).2.2.2 = ansP en (rnP R L P en).1 (rnP R L P en).2.1 := by
  obtain ⟨h1, h2, h3⟩ := gol_k (R := R) (P := P) (en := en) hL 401 T0 0 none 0 IT0 (Or.inl rfl) (fun e he => by cases he)
  have key : IT L 0 (rnP R L P en).1 ∧ sfP (rnP R L P en).1 := by
    unfold rnP finP lstP
    dsimp only
    by_cases h : en = 3 ∧ ¬ tOv (golP R L P en 401 T0 0 none 0).1
    · rw [if_pos h]
      split
      · exact ⟨h1, h2⟩
      · rename_i e he
        have := h3 e he
        split
        · exact ⟨(h1.wk this).1, sf_wk (tOv_n h.2).1⟩
        · exact ⟨(h1.wk this).1, sf_wk (tOv_n h.2).1⟩
    · rw [if_neg h]; exact ⟨h1, h2⟩
  exact ⟨key.1.2.2.1, key.1.2.2.2.2.2.2.1, key.2, rfl⟩
