/-! ===== the words for the state: frames, acts, rows, pipes ===== -/
def b2 (p : Prop) [Decidable p] : Int32 := if p then 1 else 0
theorem b2_t {p : Prop} [Decidable p] (h : p) : b2 p = 1 := if_pos h
theorem b2_f {p : Prop} [Decidable p] (h : ¬ p) : b2 p = 0 := if_neg h
theorem b2_c {p q : Prop} [Decidable p] [Decidable q] (h : p ↔ q) : b2 p = b2 q := by unfold b2; by_cases hp : p <;> simp [hp, h.mp, h] <;> simp_all
/-- G' is G but for the cells of P; no shape has changed -/
def frm (P : Nat → Prop) (G G' : gS) : Prop := gsz G' = gsz G ∧ (∀ q, gsh G' q = gsh G q) ∧ ∀ q, ¬ P q → (∀ k, gi G' q k = gi G q k) ∧ (∀ k, gl G' q k = gl G q k) ∧ ∀ k, gr G' q k = gr G q k
theorem frm.rf {P : Nat → Prop} {G : gS} : frm P G G := ⟨rfl, fun _ => rfl, fun _ _ => ⟨fun _ => rfl, fun _ => rfl, fun _ => rfl⟩⟩
theorem frm.tr {P : Nat → Prop} {G G' G'' : gS} (h : frm P G G') (h' : frm P G' G'') : frm P G G'' := ⟨h'.1.trans h.1, fun q => (h'.2.1 q).trans (h.2.1 q), fun q hq => ⟨fun k => ((h'.2.2 q hq).1 k).trans ((h.2.2 q hq).1 k), fun k => ((h'.2.2 q hq).2.1 k).trans ((h.2.2 q hq).2.1 k), fun k => ((h'.2.2 q hq).2.2 k).trans ((h.2.2 q hq).2.2 k)⟩⟩
theorem frm.si {P : Nat → Prop} {G G' : gS} {a k : Nat} {x : Int32} (h : frm P G G') (ha : P a) : frm P G (si G' a k x) := h.tr ⟨rfl, fun _ => rfl, fun q hq => ⟨fun j => by rw [gi_si, if_neg (fun e : q = a ∧ j = k => hq (by rw [e.1]; exact ha))], fun _ => rfl, fun _ => rfl⟩⟩
theorem frm.sl {P : Nat → Prop} {G G' : gS} {a k : Nat} {x : Int64} (h : frm P G G') (ha : P a) : frm P G (sl G' a k x) := h.tr ⟨rfl, fun _ => rfl, fun q hq => ⟨fun _ => rfl, fun j => by rw [gl_sl, if_neg (fun e : q = a ∧ j = k => hq (by rw [e.1]; exact ha))], fun _ => rfl⟩⟩
theorem frm.sr {P : Nat → Prop} {G G' : gS} {a k : Nat} {x : Option Nat} (h : frm P G G') (ha : P a) : frm P G (sr G' a k x) := h.tr ⟨rfl, fun _ => rfl, fun q hq => ⟨fun _ => rfl, fun _ => rfl, fun j => by rw [gr_sr, if_neg (fun e : q = a ∧ j = k => hq (by rw [e.1]; exact ha))]⟩⟩
theorem frm.mono {P P' : Nat → Prop} {G G' : gS} (h : frm P G G') (hp : ∀ q, P q → P' q) : frm P' G G' := ⟨h.1, h.2.1, fun q hq => h.2.2 q (fun z => hq (hp q z))⟩
theorem frm.i {P : Nat → Prop} {G G' : gS} (h : frm P G G') {q k : Nat} (hq : ¬ P q) : gi G' q k = gi G q k := (h.2.2 q hq).1 k
theorem frm.l {P : Nat → Prop} {G G' : gS} (h : frm P G G') {q k : Nat} (hq : ¬ P q) : gl G' q k = gl G q k := (h.2.2 q hq).2.1 k
theorem frm.r {P : Nat → Prop} {G G' : gS} (h : frm P G G') {q k : Nat} (hq : ¬ P q) : gr G' q k = gr G q k := (h.2.2 q hq).2.2 k
/-- an act: its parts, kind and number each -/
abbrev sA : Type := List (Int32 × Int64)
def shAct (G : gS) (a : Nat) : Prop := gsh G a = (1, 0, 0) ∧ gr G a 0 = some (a + 1) ∧ gr G a 1 = some (a + 2) ∧ gsh G (a + 1) = (2, 0, 4) ∧ gsh G (a + 2) = (2, 1, 4)
def actAt (G : gS) (a : Nat) (A : sA) : Prop := gi G a 2 = nI A.length ∧ A.length ≤ 4 ∧ ∀ (k : Nat) (q : Int32 × Int64), A[k]? = some q → gi G (a + 1) k = q.1 ∧ gl G (a + 2) k = q.2
def actC (a : Nat) : Nat → Prop := fun q => a ≤ q ∧ q < a + 3
theorem actAt.fr {P : Nat → Prop} {G G' : gS} {a : Nat} {A : sA} (h : actAt G a A) (hf : frm P G G') (h0 : ¬ P a) (h1 : ¬ P (a + 1)) (h2 : ¬ P (a + 2)) : actAt G' a A :=
  ⟨by rw [hf.i h0]; exact h.1, h.2.1, fun k q hq => by rw [hf.i h1, hf.l h2]; exact h.2.2 k q hq⟩
theorem shAct.fr {P : Nat → Prop} {G G' : gS} {a : Nat} (h : shAct G a) (hf : frm P G G') (h0 : ∀ k, gr G' a k = gr G a k) : shAct G' a :=
  ⟨by rw [hf.2.1]; exact h.1, by rw [h0]; exact h.2.1, by rw [h0]; exact h.2.2.1, by rw [hf.2.1]; exact h.2.2.2.1, by rw [hf.2.1]; exact h.2.2.2.2⟩
/-- numbers -/
theorem nI_lt4 {n : Nat} (h : n < 2 ^ 31) {m : Nat} (hm : m < 2 ^ 31) {x : Int32} (hx : x = nI m) : (x ≤ nI n) = (m ≤ n) := by rw [hx]; exact propext (nI_leI hm h)
