/-! ===== asking, in pure words ===== -/
def tOv (T : sT) : Prop := tS T = true ∨ tF T ≠ 0
theorem tOv_n {T : sT} (h : ¬ tOv T) : tS T = false ∧ tF T = 0 := ⟨by cases hs : tS T; rfl; exact absurd (Or.inl hs) h, by by_cases hf : tF T = 0; exact hf; exact absurd (Or.inr hf) h⟩
theorem tOv_i {T : sT} (h1 : tS T = false) (h2 : tF T = 0) : ¬ tOv T := by rintro (h | h); rw [h1] at h; cases h; exact h h2
def celP (r : sT × Option Nat) : sT × Option Nat := match r.2 with
  | none => r
  | some e => (sCl r.1, some e)
def wkT (R : sR) (L : List sA) (e : Nat) (T : sT) : sT := sWk T (wk R L 401 e (tE T, tW T, 0))
def srcP (R : sR) (P : sP) (T : sT) : sT × Option Nat :=
  if P.1 = 1 then (if R.1 P.2.2.2.1.toNatClampNeg = 0 then (sFt T 1, none) else if nI (tO T) < R.2.1 P.2.2.2.1.toNatClampNeg then (sO (sAd T (0, R.2.2 P.2.2.2.1.toNatClampNeg (tO T), 0, 0, none)), some (tN T)) else (T, none))
  else if P.2.2.2.1 ≠ -1 ∧ P.2.2.2.1 ≤ nI (tO T) then (T, none) else (sO (sAd T (0, P.2.1 + lN (tO T) * P.2.2.1, 0, 0, none)), some (tN T))
abbrev sF : Type := sT → sT × Option Nat
def mapP (k : Nat) (f : sF) (T : sT) : sT × Option Nat := match (f T).2 with
  | none => ((f T).1, none)
  | some e => (sAd (f T).1 (1, 0, k, e, none), some (tN (f T).1))
def tstP (R : sR) (L : List sA) (A : sA) (f : sF) : Nat → sT → sT × Option Nat
  | 0, T => (T, none)
  | j + 1, T => match (f T).2 with
    | none => ((f T).1, none)
    | some e => if tF (wkT R L e (f T).1) ≠ 0 then (wkT R L e (f T).1, none) else if A.all (fun q => pPartB q (tE (wkT R L e (f T).1) e).2.1) = true then (wkT R L e (f T).1, some e) else tstP R L A f j (wkT R L e (f T).1)
def takP (v : Nat) (x : Int64) (f : sF) (T : sT) : sT × Option Nat := if x ≤ lN (tK T v) then (T, none) else f (sK T v)
def skL (x : Int64) (f : sF) : Nat → Nat → sT → sT × Bool
  | 0, _, T => (T, true)
  | j + 1, n, T => if lN n < x then (match (f T).2 with | none => ((f T).1, false) | some _ => skL x f j (n + 1) (f T).1) else (T, true)
def skpP (v : Nat) (x : Int64) (f : sF) (T : sT) : sT × Option Nat := if tB T v = true then f T else if (skL x f 401 0 (sB T v)).2 = true then f (skL x f 401 0 (sB T v)).1 else ((skL x f 401 0 (sB T v)).1, none)
def whlP (R : sR) (L : List sA) (x : Int64) (f : sF) (T : sT) : sT × Option Nat := match (f T).2 with
  | none => ((f T).1, none)
  | some e => if tF (wkT R L e (f T).1) ≠ 0 then (wkT R L e (f T).1, none) else if (tE (wkT R L e (f T).1) e).2.1 < x then (wkT R L e (f T).1, some e) else (wkT R L e (f T).1, none)
def sumP (k : Nat) (f : sF) (T : sT) : sT × Option Nat := match (f T).2 with
  | none => ((f T).1, none)
  | some e => (sQ (sAd (f T).1 (2, 0, k, e, tQ (f T).1 (k + 1))) (k + 1) (tN (f T).1), some (tN (f T).1))
def pilP (v : Nat) (f : sF) : Nat → sT → sT
  | 0, T => T
  | j + 1, T => match (f T).2 with
    | none => (f T).1
    | some e => pilP v f j (sPush (f T).1 v e)
noncomputable def popP (v : Nat) (T : sT) : sT × Option Nat := match (@ite _ (tOv T) (Classical.propDecidable _) [] (tL T v)) with
  | [] => (T, none)
  | e :: r => (sPop T v r, some e)
noncomputable def trnP (v : Nat) (f : sF) (T : sT) : sT × Option Nat := popP v (if tB T v = true then T else pilP v f 401 (sB T v))
noncomputable def actP (R : sR) (L : List sA) (k : Nat) (A : sA) (f : sF) (T : sT) : sT × Option Nat := if kd A ≤ 3 then celP (mapP k f T) else if kd A ≤ 6 then celP (tstP R L A f 401 T) else if kd A = 7 then celP (takP (k + 1) (nu A) f T) else if kd A = 8 then skpP (k + 1) (nu A) f T else if kd A = 9 then celP (whlP R L (nu A) f T) else if kd A = 10 then celP (sumP k f T) else celP (trnP (k + 1) f T)
noncomputable def entP (g : sF) (T : sT) : sT × Option Nat := @ite _ (tOv T) (Classical.propDecidable _) (T, none) (if 400 ≤ tA T then (sSp T, none) else g (sAk T))
noncomputable def askP (R : sR) (L : List sA) (P : sP) : Nat → sT → sT × Option Nat
  | 0 => entP (srcP R P)
  | k + 1 => entP (actP R L k (L.getD k []) (askP R L P k))
/-- what holds of the state while j asks are open -/
def IT (L : List sA) (j : Nat) (T : sT) : Prop := tN T + j ≤ tA T ∧ tP T + j ≤ tA T ∧ tA T ≤ 400 ∧ wfE L (tE T) (tN T) ∧ (∀ k e, e ∈ tL T k → e < tN T) ∧ (∀ k b, tQ T k = some b → b < tN T) ∧ tF T ≤ 4 ∧ tO T ≤ tN T ∧ ∀ k, tK T k ≤ 100
def gdQ (L : List sA) (j : Nat) (T : sT) (r : sT × Option Nat) : Prop := IT L j r.1 ∧ tA T ≤ tA r.1 ∧ ∀ e, r.2 = some e → e < tN r.1 ∧ tS r.1 = false ∧ tF r.1 = 0 ∧ tP r.1 + j + 1 ≤ tA r.1
def gdP (L : List sA) (j : Nat) (T : sT) (r : sT × Option Nat) : Prop := gdQ L j T r ∧ ∀ e, r.2 = some e → tA T < tA r.1
def okF (L : List sA) (j : Nat) (f : sF) : Prop := ∀ T, IT L j T → gdP L j T (f T)
theorem IT.dn {L : List sA} {j : Nat} {T : sT} (h : IT L (j + 1) T) : IT L j T := ⟨by have := h.1; omega, by have := h.2.1; omega, h.2.2⟩
theorem wk_f4 {R : sR} {L : List sA} : ∀ (n e : Nat) (s : sW), s.2.2 ≤ 4 → (wk R L n e s).2.2 ≤ 4 := by
  have hM : ∀ (e : Nat) (s : sW), s.2.2 ≤ 4 → (wkM R L e s).2.2 ≤ 4 := by
    intro e s h
    unfold wkM
    split
    · exact h
    · split
      · exact apL_f R _ _
      · show 0 ≤ 4; omega
  have hS : ∀ (e : Nat) (s : sW), s.2.2 ≤ 4 → (wkS e s).2.2 ≤ 4 := by
    intro e s h
    unfold wkS
    split
    · exact h
    · show 0 ≤ 4; omega
  intro n
  induction n with
  | zero => intro e s h; exact h
  | succ n ih =>
    intro e s h
    unfold wk
    split
    · exact h
    · split
      · exact h
      · split
        · exact hM _ _ (ih _ _ h)
        · refine hS _ _ (ih _ _ ?_)
          split
          · show 0 ≤ 4; omega
          · exact ih _ _ (Nat.zero_le _)
theorem IT.wk {R : sR} {L : List sA} {j e : Nat} {T : sT} (h : IT L j T) (he : e < tN T) : IT L j (wkT R L e T) ∧ (tF (wkT R L e T) = 0 → (tE (wkT R L e T) e).1 = 0) := by
  obtain ⟨h1, h2, h3, h4, h5, h6, h7⟩ := h
  obtain ⟨k1, k2, k3⟩ := wk_k (R := R) (L := L) (m := tN T) 401 e (tE T, tW T, 0) (by omega) he h4
  exact ⟨⟨h1, h2, h3, h4.k k1, h5, h6, wk_f4 _ _ _ (Nat.zero_le _), h7.2⟩, fun q => (k3 q).1⟩
theorem wfE.ad {L : List sA} {el : Nat → sE} {n : Nat} {x : sE} (h : wfE L el n) (h1 : 1 ≤ x.1 → x.2.2.2.1 < n) (h2 : x.1 = 1 → ∃ A, L[x.2.2.1]? = some A ∧ ∀ q ∈ A, okQ q) (h3 : 2 ≤ x.1 → ∀ b, x.2.2.2.2 = some b → b < n) : wfE L (va_up el n x) (n + 1) := by
  intro e he
  by_cases hn : e = n
  · subst hn
    rw [show va_up el e x e = x from if_pos rfl]
    exact ⟨h1, h2, h3⟩
  · rw [show va_up el n x e = el e from if_neg hn]
    exact h e (by omega)
theorem IT.ad {L : List sA} {j : Nat} {T : sT} {x : sE} (h : IT L (j + 1) T) (h1 : 1 ≤ x.1 → x.2.2.2.1 < tN T) (h2 : x.1 = 1 → ∃ A, L[x.2.2.1]? = some A ∧ ∀ q ∈ A, okQ q) (h3 : 2 ≤ x.1 → ∀ b, x.2.2.2.2 = some b → b < tN T) : IT L j (sAd T x) := by
  obtain ⟨a1, a2, a3, a4, a5, a6, a7⟩ := h
  exact ⟨by rw [tN_sAd, tA_sAd]; omega, by rw [tP_sAd, tA_sAd]; omega, a3, a4.ad h1 h2 h3, fun k e he => Nat.lt_succ_of_lt (a5 k e he), fun k b hb => Nat.lt_succ_of_lt (a6 k b hb), a7.1, Nat.le_succ_of_le a7.2.1, a7.2.2⟩
theorem gd_none {L : List sA} {j : Nat} {T T1 : sT} (h : IT L j T1) (hA : tA T ≤ tA T1) : gdQ L j T (T1, none) := ⟨h, hA, fun e he => by cases he⟩
theorem gd_ent {L : List sA} {j : Nat} {g : sF} (h : ∀ T, IT L (j + 1) T → ¬ tOv T → gdQ L j T (g T)) : okF L j (entP g) := by
  intro T hT
  unfold entP
  by_cases ho : tOv T
  · rw [if_pos ho]; exact ⟨gd_none hT (Nat.le_refl _), fun e he => by cases he⟩
  · rw [if_neg ho]
    obtain ⟨a1, a2, a3, a4⟩ := hT
    split
    · exact ⟨gd_none ⟨a1, a2, a3, a4⟩ (Nat.le_refl _), fun e he => by cases he⟩
    · rename_i h4
      have := h (sAk T) ⟨by rw [tN_sAk, tA_sAk]; omega, by rw [tP_sAk, tA_sAk]; omega, by rw [tA_sAk]; omega, a4⟩ ho
      have h5 := this.2.1; rw [tA_sAk] at h5
      exact ⟨⟨this.1, by omega, this.2.2⟩, fun e he => by omega⟩
theorem gd_cel {L : List sA} {j : Nat} {T : sT} {r : sT × Option Nat} (h : gdQ L j T r) : gdQ L j T (celP r) := by
  obtain ⟨T1, o⟩ := r
  cases o with
  | none => exact h
  | some e => exact h
theorem gd_src {R : sR} {L : List sA} {P : sP} {j : Nat} {T : sT} (h : IT L (j + 1) T) (ho : ¬ tOv T) : gdQ L j T (srcP R P T) := by
  obtain ⟨o1, o2⟩ := tOv_n ho
  obtain ⟨a1, a2, a3, a4, a5, a6, a7⟩ := id h
  have had : ∀ x, gdQ L j T (sO (sAd T (0, x, 0, 0, none)), some (tN T)) := by
    intro x
    obtain ⟨d1, d2, d3, d4, d5, d6, d7, d8, d9⟩ := h.ad (x := (0, x, 0, 0, none)) (fun q => absurd q (by simp)) (fun q => absurd q (by simp)) (fun q => absurd q (by simp))
    refine ⟨⟨d1, d2, d3, d4, d5, d6, d7, by show tO T + 1 ≤ tN T + 1; have := a7.2.1; omega, d9⟩, Nat.le_refl _, fun e he => ?_⟩
    cases he
    refine ⟨Nat.lt_succ_self _, o1, o2, ?_⟩
    show tP T + j + 1 ≤ tA T
    omega
  unfold srcP
  split
  · split
    · exact gd_none ⟨h.dn.1, h.dn.2.1, a3, a4, a5, a6, by show 1 ≤ 4; omega, a7.2⟩ (Nat.le_refl _)
    · split
      · exact had _
      · exact gd_none h.dn (Nat.le_refl _)
  · split
    · exact gd_none h.dn (Nat.le_refl _)
    · exact had _
theorem gd_map {L : List sA} {j k : Nat} {A : sA} {f : sF} {T : sT} (hf : okF L (j + 1) f) (h : IT L (j + 1) T) (hA : L[k]? = some A) (hk : ∀ q ∈ A, okQ q) : gdQ L j T (mapP k f T) := by
  obtain ⟨⟨b1, b2, b3⟩, b4⟩ := hf T h
  unfold mapP
  cases ho : (f T).2 with
  | none => exact gd_none b1.dn b2
  | some e =>
    obtain ⟨c1, c2, c3, c4⟩ := b3 e ho
    refine ⟨b1.ad (fun _ => c1) (fun _ => ⟨A, hA, hk⟩) (fun q => absurd q (by simp)), b2, fun e' he' => ?_⟩
    cases he'
    refine ⟨Nat.lt_succ_self _, c2, c3, ?_⟩
    show tP (f T).1 + j + 1 ≤ tA (f T).1
    omega
theorem gd_tst {R : sR} {L : List sA} {A : sA} {j : Nat} {f : sF} (hf : okF L (j + 1) f) : ∀ (n : Nat) (T : sT), IT L (j + 1) T → gdQ L j T (tstP R L A f n T) := by
  intro n
  induction n with
  | zero => intro T h; exact gd_none h.dn (Nat.le_refl _)
  | succ n ih =>
    intro T h
    obtain ⟨⟨b1, b2, b3⟩, b4⟩ := hf T h
    unfold tstP
    cases ho : (f T).2 with
    | none => exact gd_none b1.dn b2
    | some e =>
      obtain ⟨c1, c2, c3, c4⟩ := b3 e ho
      have hw := (b1.wk (R := R) c1).1
      dsimp only
      split
      · exact gd_none hw.dn b2
      · rename_i h0
        split
        · refine ⟨hw.dn, b2, fun e' he' => ?_⟩
          cases he'
          refine ⟨c1, c2, by simpa using h0, ?_⟩
          show tP (f T).1 + j + 1 ≤ tA (f T).1
          omega
        · obtain ⟨d1, d2, d3⟩ := ih _ hw
          exact ⟨d1, Nat.le_trans b2 d2, d3⟩
theorem gd_tak {L : List sA} {j v : Nat} {x : Int64} {f : sF} {T : sT} (hx : x ≤ lN 100) (hf : okF L (j + 1) f) (h : IT L (j + 1) T) : gdQ L j T (takP v x f T) := by
  unfold takP
  split
  · exact gd_none h.dn (Nat.le_refl _)
  · rename_i hn
    have h1 : IT L (j + 1) (sK T v) := by
      obtain ⟨a1, a2, a3, a4, a5, a6, a7, a8, a9⟩ := h
      refine ⟨a1, a2, a3, a4, a5, a6, a7, a8, fun k => ?_⟩
      rw [tK_sK]
      unfold va_up
      split
      · have h2 : lN (tK T v) < lN 100 := Int64.lt_of_lt_of_le (Int64.not_le.mp hn) hx
        rw [lN_lt (by have := a9 v; omega) (by omega)] at h2
        omega
      · exact a9 k
    obtain ⟨⟨b1, b2, b3⟩, b4⟩ := hf (sK T v) h1
    exact ⟨b1.dn, b2, fun e he => by obtain ⟨c1, c2, c3, c4⟩ := b3 e he; exact ⟨c1, c2, c3, by omega⟩⟩
theorem gd_skL {L : List sA} {j : Nat} {x : Int64} {f : sF} (hf : okF L (j + 1) f) : ∀ (m n : Nat) (T : sT), IT L (j + 1) T → IT L (j + 1) (skL x f m n T).1 ∧ tA T ≤ tA (skL x f m n T).1 := by
  intro m
  induction m with
  | zero => intro n T h; exact ⟨h, Nat.le_refl _⟩
  | succ m ih =>
    intro n T h
    obtain ⟨⟨b1, b2, b3⟩, b4⟩ := hf T h
    unfold skL
    split
    · cases ho : (f T).2 with
      | none => exact ⟨b1, b2⟩
      | some e =>
        obtain ⟨c1, c2⟩ := ih (n + 1) _ b1
        exact ⟨c1, Nat.le_trans b2 c2⟩
    · exact ⟨h, Nat.le_refl _⟩
theorem gd_skp {L : List sA} {j v : Nat} {x : Int64} {f : sF} {T : sT} (hf : okF L (j + 1) f) (h : IT L (j + 1) T) : gdQ L j T (skpP v x f T) := by
  have key : ∀ T1, IT L (j + 1) T1 → tA T ≤ tA T1 → gdQ L j T (f T1) := by
    intro T1 h1 h2
    obtain ⟨⟨b1, b2, b3⟩, b4⟩ := hf T1 h1
    exact ⟨b1.dn, Nat.le_trans h2 b2, fun e he => by obtain ⟨c1, c2, c3, c4⟩ := b3 e he; exact ⟨c1, c2, c3, by omega⟩⟩
  obtain ⟨s1, s2⟩ := gd_skL (x := x) hf 401 0 (sB T v) h
  unfold skpP
  split
  · exact key T h (Nat.le_refl _)
  · split
    · exact key _ s1 s2
    · exact gd_none s1.dn s2
theorem gd_whl {R : sR} {L : List sA} {j : Nat} {x : Int64} {f : sF} {T : sT} (hf : okF L (j + 1) f) (h : IT L (j + 1) T) : gdQ L j T (whlP R L x f T) := by
  obtain ⟨⟨b1, b2, b3⟩, b4⟩ := hf T h
  unfold whlP
  cases ho : (f T).2 with
  | none => exact gd_none b1.dn b2
  | some e =>
    obtain ⟨c1, c2, c3, c4⟩ := b3 e ho
    have hw := (b1.wk (R := R) c1).1
    dsimp only
    split
    · exact gd_none hw.dn b2
    · rename_i h0
      split
      · refine ⟨hw.dn, b2, fun e' he' => ?_⟩
        cases he'
        refine ⟨c1, c2, by simpa using h0, ?_⟩
        show tP (f T).1 + j + 1 ≤ tA (f T).1
        omega
      · exact gd_none hw.dn b2
theorem IT.sQ {L : List sA} {j k e : Nat} {T : sT} (h : IT L j T) (he : e < tN T) : IT L j (sQ T k e) := by
  obtain ⟨a1, a2, a3, a4, a5, a6, a7⟩ := h
  refine ⟨a1, a2, a3, a4, a5, fun k' b' hb' => ?_, a7⟩
  rw [tQ_sQ] at hb'
  rw [tN_sQ]
  unfold va_up at hb'
  split at hb'
  · cases hb'; exact he
  · exact a6 _ _ hb'
theorem gd_sum {L : List sA} {j k : Nat} {f : sF} {T : sT} (hf : okF L (j + 1) f) (h : IT L (j + 1) T) : gdQ L j T (sumP k f T) := by
  obtain ⟨⟨b1, b2, b3⟩, b4⟩ := hf T h
  unfold sumP
  cases ho : (f T).2 with
  | none => exact gd_none b1.dn b2
  | some e =>
    obtain ⟨c1, c2, c3, c4⟩ := b3 e ho
    have h1 : IT L j (sAd (f T).1 (2, 0, k, e, tQ (f T).1 (k + 1))) := b1.ad (fun _ => c1) (fun q => absurd q (by simp)) (fun _ b hb => b1.2.2.2.2.2.1 _ _ hb)
    have h2 : tN (f T).1 < tN (sAd (f T).1 (2, 0, k, e, tQ (f T).1 (k + 1))) := by rw [tN_sAd]; exact Nat.lt_succ_self _
    refine ⟨h1.sQ h2, ?_, fun e' he' => ?_⟩
    · dsimp only; rw [tA_sQ, tA_sAd]; exact b2
    · cases he'
      dsimp only
      rw [tN_sQ, tS_sQ, tF_sQ, tP_sQ, tA_sQ]
      refine ⟨h2, ?_, ?_, ?_⟩
      · rw [tS_sAd]; exact c2
      · rw [tF_sAd]; exact c3
      · rw [tP_sAd, tA_sAd]; omega
theorem gd_pil {L : List sA} {j v : Nat} {f : sF} (hf : okF L (j + 1) f) : ∀ (n : Nat) (T : sT), IT L (j + 1) T → IT L (j + 1) (pilP v f n T) ∧ tA T ≤ tA (pilP v f n T) := by
  intro n
  induction n with
  | zero => intro T h; exact ⟨h, Nat.le_refl _⟩
  | succ n ih =>
    intro T h
    obtain ⟨⟨b1, b2, b3⟩, b4⟩ := hf T h
    unfold pilP
    cases ho : (f T).2 with
    | none => exact ⟨b1, b2⟩
    | some e =>
      obtain ⟨c1, c2, c3, c4⟩ := b3 e ho
      obtain ⟨a1, a2, a3, a4, a5, a6, a7⟩ := b1
      have h1 : IT L (j + 1) (sPush (f T).1 v e) := by
        refine ⟨a1, ?_, a3, a4, fun k' e' he' => ?_, a6, a7⟩
        · show tP (f T).1 + 1 + (j + 1) ≤ tA (f T).1
          omega
        · rw [tL_sPush] at he'
          unfold va_up at he'
          split at he'
          · rcases List.mem_cons.mp he' with rfl | he'
            · exact c1
            · exact a5 _ _ he'
          · exact a5 _ _ he'
      obtain ⟨d1, d2⟩ := ih _ h1
      exact ⟨d1, Nat.le_trans b2 d2⟩
theorem gd_pop {L : List sA} {j v : Nat} {T : sT} (h : IT L (j + 1) T) : gdQ L j T (popP v T) := by
  obtain ⟨a1, a2, a3, a4, a5, a6, a7⟩ := id h
  unfold popP
  by_cases ho : tOv T
  · rw [if_pos ho]; exact gd_none h.dn (Nat.le_refl _)
  · rw [if_neg ho]
    obtain ⟨o1, o2⟩ := tOv_n ho
    cases hl : tL T v with
    | nil => exact gd_none h.dn (Nat.le_refl _)
    | cons e r =>
      refine ⟨⟨h.dn.1, h.dn.2.1, a3, a4, fun k' e' he' => ?_, a6, a7⟩, Nat.le_refl _, fun e' he' => ?_⟩
      · rw [tL_sPop] at he'
        unfold va_up at he'
        split at he'
        · exact a5 v e' (by rw [hl]; exact List.mem_cons_of_mem _ he')
        · exact a5 _ _ he'
      · cases he'
        refine ⟨a5 v e (by rw [hl]; exact List.mem_cons_self), o1, o2, ?_⟩
        show tP T + j + 1 ≤ tA T
        omega
theorem gd_trn {L : List sA} {j v : Nat} {f : sF} {T : sT} (hf : okF L (j + 1) f) (h : IT L (j + 1) T) : gdQ L j T (trnP v f T) := by
  unfold trnP
  split
  · exact gd_pop h
  · obtain ⟨h1, h2⟩ := gd_pil (v := v) hf 401 (sB T v) h
    obtain ⟨a1, a2, a3⟩ := gd_pop (v := v) h1
    exact ⟨a1, Nat.le_trans h2 a2, a3⟩
/-- an act that may stand in a pipe -/
def okA (A : sA) : Prop := 1 ≤ A.length ∧ 0 ≤ kd A ∧ kd A ≤ 11 ∧ (kd A ≤ 3 → ∀ q ∈ A, okQ q) ∧ (kd A = 7 ∨ kd A = 8 → 0 ≤ nu A) ∧ (kd A = 7 → nu A ≤ lN 100)
theorem gd_act {R : sR} {L : List sA} {j k : Nat} {A : sA} {f : sF} {T : sT} (hA : L[k]? = some A) (hk : okA A) (hf : okF L (j + 1) f) (h : IT L (j + 1) T) : gdQ L j T (actP R L k A f T) := by
  unfold actP
  split
  · exact gd_cel (gd_map hf h hA (hk.2.2.2.1 (by assumption)))
  split
  · exact gd_cel (gd_tst hf 401 T h)
  split
  · exact gd_cel (gd_tak (hk.2.2.2.2.2 (by assumption)) hf h)
  split
  · exact gd_skp hf h
  split
  · exact gd_cel (gd_whl hf h)
  split
  · exact gd_cel (gd_sum hf h)
  · exact gd_cel (gd_trn hf h)
theorem gd_ask {R : sR} {L : List sA} {P : sP} (hL : ∀ A ∈ L, okA A) : ∀ (k j : Nat), k ≤ L.length → okF L j (askP R L P k) := by
  intro k
  induction k with
  | zero => intro j _; exact gd_ent (fun T h ho => gd_src h ho)
  | succ k ih =>
    intro j hk
    have hA : L[k]? = some (L.getD k []) := by rw [List.getD_eq_getElem?_getD, List.getElem?_eq_getElem (by omega)]; rfl
    exact gd_ent (fun T h ho => gd_act hA (hL _ (List.mem_of_getElem? hA)) (ih (j + 1) (by omega)) h)
