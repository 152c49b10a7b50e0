/-! ===== the ghost heap: ints, longs, references by cell and place; the cells' shapes; the heap's size ===== -/
abbrev gS : Type := (Nat → Nat → Int32) × (Nat → Nat → Int64) × (Nat → Nat → Option Nat) × (Nat → Nat × Nat × Nat) × Nat
def gi (G : gS) (a k : Nat) : Int32 := G.1 a k
def gl (G : gS) (a k : Nat) : Int64 := G.2.1 a k
def gr (G : gS) (a k : Nat) : Option Nat := G.2.2.1 a k
def gsh (G : gS) (a : Nat) : Nat × Nat × Nat := G.2.2.2.1 a
def gsz (G : gS) : Nat := G.2.2.2.2
def g2 {α : Type} (f : Nat → Nat → α) (a k : Nat) (x : α) : Nat → Nat → α := fun a' k' => if a' = a ∧ k' = k then x else f a' k'
def si (G : gS) (a k : Nat) (x : Int32) : gS := (g2 G.1 a k x, G.2.1, G.2.2.1, G.2.2.2.1, G.2.2.2.2)
def sl (G : gS) (a k : Nat) (x : Int64) : gS := (G.1, g2 G.2.1 a k x, G.2.2.1, G.2.2.2.1, G.2.2.2.2)
def sr (G : gS) (a k : Nat) (x : Option Nat) : gS := (G.1, G.2.1, g2 G.2.2.1 a k x, G.2.2.2.1, G.2.2.2.2)
/-- a new cell of the shape sh, all its places at their defaults -/
def gnw (G : gS) (sh : Nat × Nat × Nat) : gS :=
  (fun a k => if a = G.2.2.2.2 then 0 else G.1 a k, fun a k => if a = G.2.2.2.2 then 0 else G.2.1 a k, fun a k => if a = G.2.2.2.2 then none else G.2.2.1 a k, fun a => if a = G.2.2.2.2 then sh else G.2.2.2.1 a, G.2.2.2.2 + 1)
theorem gi_si (G : gS) (a k : Nat) (x : Int32) (a' k' : Nat) : gi (si G a k x) a' k' = if a' = a ∧ k' = k then x else gi G a' k' := rfl
theorem gi_sl (G : gS) (a k : Nat) (x : Int64) (a' k' : Nat) : gi (sl G a k x) a' k' = gi G a' k' := rfl
theorem gi_sr (G : gS) (a k : Nat) (x : Option Nat) (a' k' : Nat) : gi (sr G a k x) a' k' = gi G a' k' := rfl
theorem gl_si (G : gS) (a k : Nat) (x : Int32) (a' k' : Nat) : gl (si G a k x) a' k' = gl G a' k' := rfl
theorem gl_sl (G : gS) (a k : Nat) (x : Int64) (a' k' : Nat) : gl (sl G a k x) a' k' = if a' = a ∧ k' = k then x else gl G a' k' := rfl
theorem gl_sr (G : gS) (a k : Nat) (x : Option Nat) (a' k' : Nat) : gl (sr G a k x) a' k' = gl G a' k' := rfl
theorem gr_si (G : gS) (a k : Nat) (x : Int32) (a' k' : Nat) : gr (si G a k x) a' k' = gr G a' k' := rfl
theorem gr_sl (G : gS) (a k : Nat) (x : Int64) (a' k' : Nat) : gr (sl G a k x) a' k' = gr G a' k' := rfl
theorem gr_sr (G : gS) (a k : Nat) (x : Option Nat) (a' k' : Nat) : gr (sr G a k x) a' k' = if a' = a ∧ k' = k then x else gr G a' k' := rfl
theorem gsh_si (G : gS) (a k : Nat) (x : Int32) (a' : Nat) : gsh (si G a k x) a' = gsh G a' := rfl
theorem gsh_sl (G : gS) (a k : Nat) (x : Int64) (a' : Nat) : gsh (sl G a k x) a' = gsh G a' := rfl
theorem gsh_sr (G : gS) (a k : Nat) (x : Option Nat) (a' : Nat) : gsh (sr G a k x) a' = gsh G a' := rfl
theorem gsz_si (G : gS) (a k : Nat) (x : Int32) : gsz (si G a k x) = gsz G := rfl
theorem gsz_sl (G : gS) (a k : Nat) (x : Int64) : gsz (sl G a k x) = gsz G := rfl
theorem gsz_sr (G : gS) (a k : Nat) (x : Option Nat) : gsz (sr G a k x) = gsz G := rfl
theorem gi_nw (G : gS) (sh : Nat × Nat × Nat) (a k : Nat) : gi (gnw G sh) a k = if a = gsz G then 0 else gi G a k := rfl
theorem gl_nw (G : gS) (sh : Nat × Nat × Nat) (a k : Nat) : gl (gnw G sh) a k = if a = gsz G then 0 else gl G a k := rfl
theorem gr_nw (G : gS) (sh : Nat × Nat × Nat) (a k : Nat) : gr (gnw G sh) a k = if a = gsz G then none else gr G a k := rfl
theorem gsh_nw (G : gS) (sh : Nat × Nat × Nat) (a : Nat) : gsh (gnw G sh) a = if a = gsz G then sh else gsh G a := rfl
theorem gsz_nw (G : gS) (sh : Nat × Nat × Nat) : gsz (gnw G sh) = gsz G + 1 := rfl
/-! what a place holds, by its type -/
def fval (ty : FieldType) (i : Int32) (l : Int64) (r : Option Nat) : Value := match ty with
  | .long => .long l
  | .object _ => va_rf r
  | .array _ => va_rf r
  | _ => .int i
def gctys : List (Nat → FieldType) := [tyX0, tyX1, tyX2, tyX3, tyX5, tyX6, tyX7]
def cty (x k : Nat) : FieldType := (gctys.getD x tyX0) k
def ety (x : Nat) : FieldType := match x with
  | 0 => .int
  | 1 => .long
  | 2 => .boolean
  | 3 => .object RX0
  | 4 => .object RX2
  | _ => .object RX3
abbrev gD : Type := va_G × (Nat → ClassId)
/-- a cell by its shape: (1, class, 0) an object, (2, elements' type, length) an array, (0, ..) nothing said -/
def gAt (D : gD) (G : gS) (H : Heap) (a : Nat) : Prop :=
  ((gsh G a).1 = 1 → ∃ r : vw_C, vwCl[(gsh G a).2.1]? = some r ∧ t_OB a (D.1.1 (gsh G a).2.1) r.2.2 (D.1.2 (gsh G a).2.1) H (fun k => fval (cty (gsh G a).2.1 k) (gi G a k) (gl G a k) (gr G a k))) ∧
  ((gsh G a).1 = 2 → H[a]? = some (arrV (D.2 (gsh G a).2.1) (gsh G a).2.2 (fun j => fval (ety (gsh G a).2.1) (gi G a j) (gl G a j) (gr G a j))))
def gH (D : gD) (base : Nat) (G : gS) (H : Heap) : Prop := H.size = gsz G ∧ base ≤ gsz G ∧ (∀ a, gAt D G H a) ∧ ∀ a, (gsh G a).1 ≠ 0 → base ≤ a ∧ a < gsz G
def gtys (dA : Nat → ClassId) : List (ClassId × FieldType) := [(dA 0, ety 0), (dA 1, ety 1), (dA 2, ety 2), (dA 3, ety 3), (dA 4, ety 4), (dA 5, ety 5)]
def gK (D : gD) (U : State) : Prop := va_K D.1 vwCl (gtys D.2) U
theorem gK.moved {D : gD} {u U : State} (hvm : u.vm.Alike U.vm) (h : gK D u) : gK D U := va_K.moved hvm h
theorem gAt.kept {D : gD} {G : gS} {H H1 : Heap} {a : Nat} (h : gAt D G H a) (hq : H1[a]? = H[a]?) : gAt D G H1 a := by
  refine ⟨fun h1 => ?_, fun h2 => hq.trans (h.2 h2)⟩
  obtain ⟨r, e1, e2⟩ := h.1 h1
  exact ⟨r, e1, e2.kept hq⟩
/-- one cell changes, its shape stays -/
theorem gH.put {D : gD} {base : Nat} {G G' : gS} {H H1 : Heap} {a : Nat} (h : gH D base G H) (hs : ∀ b, gsh G' b = gsh G b) (hz : gsz G' = gsz G) (hi : ∀ b, b ≠ a → ∀ k, gi G' b k = gi G b k) (hl : ∀ b, b ≠ a → ∀ k, gl G' b k = gl G b k) (hr : ∀ b, b ≠ a → ∀ k, gr G' b k = gr G b k) (z : H1.size = H.size) (oq : ∀ q : Nat, q ≠ a → H1[q]? = H[q]?) (ha : gAt D G' H1 a) : gH D base G' H1 := by
  obtain ⟨h1, h2, h3, h4⟩ := h
  refine ⟨by rw [z, hz]; exact h1, by rw [hz]; exact h2, fun b => ?_, fun b hb => by rw [hs] at hb; rw [hz]; exact h4 b hb⟩
  by_cases hb : b = a
  · rw [hb]; exact ha
  · have h5 := (h3 b).kept (oq b hb)
    refine ⟨fun q => ?_, fun q => ?_⟩
    · rw [hs] at q ⊢
      obtain ⟨r, e1, e2⟩ := h5.1 q
      refine ⟨r, e1, ?_⟩
      simp only [hi b hb, hl b hb, hr b hb]
      exact e2
    · rw [hs] at q ⊢
      have e := h5.2 q
      simp only [hi b hb, hl b hb, hr b hb]
      exact e
/-! ===== locals: a place a slot, unknown ones are none ===== -/
def lg : Nat → List (Option Value) → Option Value
  | _, [] => none
  | 0, o :: _ => o
  | n + 1, _ :: r => lg n r
def lnw (o : Option Value) : Option Value := match o with
  | some (.long _) => none
  | some (.double _) => none
  | x => x
def ls1 : Nat → Value → List (Option Value) → List (Option Value)
  | _, _, [] => []
  | 0, v, _ :: r => some v :: r
  | n + 1, v, o :: r => (if n = 0 then lnw o else o) :: ls1 n v r
def ls2 : Nat → Value → List (Option Value) → List (Option Value)
  | _, _, [] => []
  | 0, v, _ :: r => some v :: (match r with | [] => [] | _ :: r' => none :: r')
  | n + 1, v, o :: r => (if n = 0 then lnw o else o) :: ls2 n v r
def lh (ls : Array Slot) (nL : Nat) (lv : List (Option Value)) : Prop := ls.size = nL ∧ lv_wf ls ∧ ∀ (i : Nat) (v : Value), lg i lv = some v → ls[i]? = some (.val v)
def lal (lv : List (Option Value)) : List (Nat × Value) := (List.range lv.length).filterMap (fun i => (lg i lv).map (fun v => (i, v)))
theorem lg_lt : ∀ (lv : List (Option Value)) (i : Nat) (v : Value), lg i lv = some v → i < lv.length := by
  intro lv
  induction lv with
  | nil => intro i v h; cases i <;> cases h
  | cons o r ih =>
    intro i v h
    cases i with
    | zero => exact Nat.zero_lt_succ _
    | succ n => exact Nat.succ_lt_succ (ih n v h)
theorem lal_mem {lv : List (Option Value)} {q : Nat × Value} : q ∈ lal lv ↔ lg q.1 lv = some q.2 := by
  constructor
  · intro h
    obtain ⟨i, -, hi⟩ := List.mem_filterMap.mp h
    cases e : lg i lv with
    | none => rw [e] at hi; cases hi
    | some v => rw [e] at hi; cases hi; exact e
  · intro h
    exact List.mem_filterMap.mpr ⟨q.1, List.mem_range.mpr (lg_lt lv _ _ h), by rw [h]; rfl⟩
theorem lh.has {ls : Array Slot} {nL : Nat} {lv : List (Option Value)} (h : lh ls nL lv) : lv_has ls nL (lal lv) := ⟨h.1, h.2.1, fun q hq => h.2.2 q.1 q.2 (lal_mem.mp hq)⟩
theorem ls1_get : ∀ (lv : List (Option Value)) (n i : Nat) (v w : Value), lg i (ls1 n v lv) = some w → (i = n ∧ w = v) ∨ (i ≠ n ∧ lg i lv = some w ∧ ¬ (i + 1 = n ∧ w.category = 2)) := by
  intro lv
  induction lv with
  | nil => intro n i v w h; cases n <;> cases i <;> cases h
  | cons o r ih =>
    intro n i v w h
    cases n with
    | zero =>
      cases i with
      | zero => cases h; exact Or.inl ⟨rfl, rfl⟩
      | succ i => exact Or.inr ⟨by omega, h, fun q => by omega⟩
    | succ n =>
      cases i with
      | zero =>
        refine Or.inr ⟨by omega, ?_, ?_⟩
        · change (if n = 0 then lnw o else o) = some w at h
          split at h
          · cases o with
            | none => cases h
            | some x => cases x <;> first | exact h | (cases h; done) | exact h
          · exact h
        · rintro ⟨q, hc⟩
          have hn : n = 0 := by omega
          change (if n = 0 then lnw o else o) = some w at h
          rw [if_pos hn] at h
          cases o with
          | none => cases h
          | some x => cases x <;> cases h <;> cases hc
      | succ i =>
        rcases ih n i v w h with ⟨a, b⟩ | ⟨a, b, c⟩
        · exact Or.inl ⟨by omega, b⟩
        · exact Or.inr ⟨by omega, b, fun q => c ⟨by omega, q.2⟩⟩
theorem ls2_get : ∀ (lv : List (Option Value)) (n i : Nat) (v w : Value), lg i (ls2 n v lv) = some w → (i = n ∧ w = v) ∨ (i ≠ n ∧ i ≠ n + 1 ∧ lg i lv = some w ∧ ¬ (i + 1 = n ∧ w.category = 2)) := by
  intro lv
  induction lv with
  | nil => intro n i v w h; cases n <;> cases i <;> cases h
  | cons o r ih =>
    intro n i v w h
    cases n with
    | zero =>
      cases i with
      | zero => cases h; exact Or.inl ⟨rfl, rfl⟩
      | succ i =>
        cases r with
        | nil => cases i <;> cases h
        | cons o' r' =>
          cases i with
          | zero => cases h
          | succ i => exact Or.inr ⟨by omega, by omega, h, fun q => by omega⟩
    | succ n =>
      cases i with
      | zero =>
        refine Or.inr ⟨by omega, by omega, ?_, ?_⟩
        · change (if n = 0 then lnw o else o) = some w at h
          split at h
          · cases o with
            | none => cases h
            | some x => cases x <;> first | exact h | (cases h; done) | exact h
          · exact h
        · rintro ⟨q, hc⟩
          have hn : n = 0 := by omega
          change (if n = 0 then lnw o else o) = some w at h
          rw [if_pos hn] at h
          cases o with
          | none => cases h
          | some x => cases x <;> cases h <;> cases hc
      | succ i =>
        rcases ih n i v w h with ⟨a, b⟩ | ⟨a, b, c, d⟩
        · exact Or.inl ⟨by omega, b⟩
        · exact Or.inr ⟨by omega, by omega, c, fun q => d ⟨by omega, q.2⟩⟩
theorem lh.st1 {ls : Array Slot} {nL : Nat} {lv : List (Option Value)} {i : Nat} {v : Value} (h : lv_has ls nL ((i, v) :: (lal lv).filter (fun q => !(q.1 == i) && !(q.1 + 1 == i && q.2.category == 2)))) : lh ls nL (ls1 i v lv) := by
  refine ⟨h.1, h.2.1, fun j w hj => ?_⟩
  rcases ls1_get lv i j v w hj with ⟨a, b⟩ | ⟨a, b, c⟩
  · subst a; subst b; exact h.2.2 _ List.mem_cons_self
  · refine h.2.2 (j, w) (List.mem_cons_of_mem _ (List.mem_filter.mpr ⟨lal_mem.mpr b, ?_⟩))
    have e1 : (j == i) = false := by simpa using a
    simp only [e1, Bool.not_false, Bool.true_and, Bool.not_eq_true', Bool.and_eq_false_iff, beq_eq_false_iff_ne, ne_eq]
    by_cases hh : j + 1 = i
    · exact Or.inr (fun q => c ⟨hh, q⟩)
    · exact Or.inl hh
theorem lh.st2 {ls : Array Slot} {nL : Nat} {lv : List (Option Value)} {i : Nat} {v : Value} (h : lv_has ls nL ((i, v) :: (lal lv).filter (fun q => !(q.1 == i) && (!(q.1 == i + 1) && !(q.1 + 1 == i && q.2.category == 2))))) : lh ls nL (ls2 i v lv) := by
  refine ⟨h.1, h.2.1, fun j w hj => ?_⟩
  rcases ls2_get lv i j v w hj with ⟨a, b⟩ | ⟨a, a2, b, c⟩
  · subst a; subst b; exact h.2.2 _ List.mem_cons_self
  · refine h.2.2 (j, w) (List.mem_cons_of_mem _ (List.mem_filter.mpr ⟨lal_mem.mpr b, ?_⟩))
    have e1 : (j == i) = false := by simpa using a
    have e2 : (j == i + 1) = false := by simpa using a2
    simp only [e1, e2, Bool.not_false, Bool.true_and, Bool.not_eq_true', Bool.and_eq_false_iff, beq_eq_false_iff_ne, ne_eq]
    by_cases hh : j + 1 = i
    · exact Or.inr (fun q => c ⟨hh, q⟩)
    · exact Or.inl hh
/-- the locals at a method's entry -/
def lent : List Value → List (Option Value)
  | [] => []
  | .long x :: r => some (.long x) :: none :: lent r
  | .double x :: r => some (.double x) :: none :: lent r
  | v :: r => some v :: lent r
def lle : List (Option Value) → List (Option Value) → Prop
  | [], _ => True
  | none :: r, [] => lle r []
  | some _ :: _, [] => False
  | none :: r, _ :: r' => lle r r'
  | some v :: r, o :: r' => o = some v ∧ lle r r'
theorem lle_get : ∀ (a b : List (Option Value)), lle a b → ∀ i v, lg i a = some v → lg i b = some v := by
  intro a
  induction a with
  | nil => intro b _ i v h; cases i <;> cases h
  | cons o r ih =>
    intro b h i v hv
    cases o with
    | none =>
      cases b with
      | nil =>
        cases i with
        | zero => cases hv
        | succ i => have := ih [] h i v hv; cases i <;> cases this
      | cons o' r' =>
        cases i with
        | zero => cases hv
        | succ i => exact ih r' h i v hv
    | some x =>
      cases b with
      | nil => exact h.elim
      | cons o' r' =>
        cases i with
        | zero => cases hv; exact h.1
        | succ i => exact ih r' h.2 i v hv
theorem lh.le {ls : Array Slot} {nL : Nat} {a b : List (Option Value)} (h : lh ls nL b) (hl : lle a b) : lh ls nL a := ⟨h.1, h.2.1, fun i v hv => h.2.2 i v (lle_get a b hl i v hv)⟩
