/-! ===== the words that every method may use, the context of a body, the judgement ===== -/
def gT : List Cond := lw_tbl.filter goodWord
theorem gT_of {w : Cond} (i : Nat) (h : lw_tbl[i]? = some w) (hg : goodWord w = true) : w ∈ gT := List.mem_filter.mpr ⟨List.mem_of_getElem? h, hg⟩
theorem gT_sub {ws : List Cond} (ps : List Nat) (h : ws = ps.filterMap (fun i => lw_tbl[i]?)) (hg : ws.all goodWord = true) : ∀ w ∈ ws, w ∈ gT := by
  intro w hw
  have h1 := List.all_eq_true.mp hg w hw
  rw [h] at hw
  obtain ⟨i, -, hi⟩ := List.mem_filterMap.mp hw
  exact gT_of i hi h1
theorem gT_good {w : Cond} (h : w ∈ gT) : goodWord w = true := (List.mem_filter.mp h).2
theorem gT_in {ws : List Cond} (h : ∀ w ∈ ws, w ∈ gT) : GoodIn gT ws := fun w hw => ⟨h w hw, good_of_word (gT_good (h w hw))⟩
def gownL : List String := [RX0, RX1, RX2, RX3, RX4, RX5, RX6, RX7, RL, RJ7, RJ9]
def gown (o : Nat) : String := gownL.getD o RL
def gN1 : Cond := .methodLinkNest RX6 15 yX3_init RX6
def gN2 : Cond := .methodLinkNest RX2 17 yX0_init RX6
def gN3 : Cond := .methodLinkNest RX5 178 yX6_isRow RX6
/-- what is known of the machine's tables at a body's start -/
def gKt (D : gD) (U : State) : Prop := gK D U ∧ (va_AO RX0 U ∧ va_AO RX2 U ∧ va_AO RX3 U) ∧ va_Nw gN1 U ∧ va_Nw gN2 U ∧ va_Nw gN3 U
theorem gKt.warm {D : gD} {s U : State} (hW : s.WarmedH U.vm) (h : gKt D s) : gKt D U := by
  obtain ⟨h1, ⟨h2, h3, h4⟩, h5, h6, h7⟩ := h
  exact ⟨h1.moved hW.alike, ⟨h2.moved hW.alike, h3.moved hW.alike, h4.moved hW.alike⟩, va_Nw.warmM hW h5, va_Nw.warmM hW h6, va_Nw.warmM hW h7⟩
theorem gKt.same {D : gD} {s U : State} (hv : s.vm = U.vm) (h : gKt D s) : gKt D U := by
  obtain ⟨h1, ⟨h2, h3, h4⟩, h5, h6, h7⟩ := h
  have ha : s.vm.Alike U.vm := by rw [hv]; exact Vm.Alike.refl _
  exact ⟨h1.moved ha, ⟨h2.moved ha, h3.moved ha, h4.moved ha⟩, va_Nw.same rfl hv h5, va_Nw.same rfl hv h6, va_Nw.same rfl hv h7⟩
/-- the context of a body: the machine, the code, its class o, whether it is a constructor, the words, the tables -/
def gB (p : Program) (s : State) (m : MethodId) (args : Array Value) (meth : Method) (c : Code) (cc : ByteArray) (nL : Nat) (o : Nat) (ini : Bool) (D : gD) (base : Nat) : Prop :=
  p.tables.exec = Jvm.exec ∧ c.code = cc ∧ c.maxLocals = nL ∧ s.vm.findClass (gown o) = some m.cls ∧ (∀ w ∈ gT, w.before args s = true) ∧ meth.locks = false ∧ gKt D s ∧ base ≤ s.heap.size ∧ (ini = true → meth.name = "<init>")
section GW
variable (p : Program) (l : Launch) (e : Env) (R : Room) (s : State) (m : MethodId) (args : Array Value) (below : List Frame) (meth : Method) (c : Code) (D : gD) (base nL : Nat) (Q : State → Prop)
/-- the machine, at pc with locals lv, stack st and the ghost heap G, comes to a state with Q -/
def gW (cells slots pc : Nat) (lv : List (Option Value)) (st : List Value) (G : gS) : Prop :=
  ∀ (H : Heap) (locs : List Loc) (ls : Array Slot), gH D base G H → va_S (fun q : Nat => base ≤ q) s.heap H locs → lh ls nL lv → W p l e R s m args below meth c H locs cells slots Q (F0 m pc ls st)
end GW
abbrev gP : Type := Nat → Nat → Nat → List (Option Value) → List Value → gS → Prop
/-- a callee: arguments, what must follow -/
abbrev gSp : Type := List Value → gS → (Option Value → gS → Prop) → Prop
/-- how many values it takes, the receiver's class + 1 (0: none), what it does, cells, slots -/
abbrev gC : Type := Nat × Nat × gSp × Nat × Nat
def gn (a b : Nat) (P : Prop) : Prop := a = b ∧ P
theorem gn_self (a : Nat) (P : Prop) : gn a a P = P := by simp [gn]
def gtg (pc : Nat) (off : Int) (k : Nat → Prop) : Prop := 0 ≤ (pc : Int) + off ∧ k ((pc : Int) + off).toNat
def gbr (c a b : Prop) : Prop := (c → a) ∧ (¬ c → b)
def g1i (st : List Value) (k : Int32 → List Value → Prop) : Prop := match st with
  | .int x :: r => k x r
  | _ => False
def g2i (st : List Value) (k : Int32 → Int32 → List Value → Prop) : Prop := match st with
  | .int y :: .int x :: r => k x y r
  | _ => False
def g1l (st : List Value) (k : Int64 → List Value → Prop) : Prop := match st with
  | .long x :: r => k x r
  | _ => False
def g2l (st : List Value) (k : Int64 → Int64 → List Value → Prop) : Prop := match st with
  | .long y :: .long x :: r => k x y r
  | _ => False
def gil (st : List Value) (k : Int64 → Int32 → List Value → Prop) : Prop := match st with
  | .int y :: .long x :: r => k x y r
  | _ => False
def g1r (st : List Value) (k : Nat → List Value → Prop) : Prop := match st with
  | .ref a :: r => k a r
  | _ => False
/-- a reference or null -/
def g1q (st : List Value) (k : Value → List Value → Prop) : Prop := match st with
  | .ref a :: r => k (.ref a) r
  | .null :: r => k .null r
  | _ => False
def goq (st : List Value) (k : Option Nat → List Value → Prop) : Prop := match st with
  | .ref a :: r => k (some a) r
  | .null :: r => k none r
  | _ => False
def gvr (st : List Value) (k : Value → Nat → List Value → Prop) : Prop := match st with
  | v :: .ref a :: r => k v a r
  | _ => False
def gir (st : List Value) (k : Int32 → Nat → List Value → Prop) : Prop := match st with
  | .int j :: .ref a :: r => k j a r
  | _ => False
def giir (st : List Value) (k : Int32 → Int32 → Nat → List Value → Prop) : Prop := match st with
  | .int x :: .int j :: .ref a :: r => k x j a r
  | _ => False
def glir (st : List Value) (k : Int64 → Int32 → Nat → List Value → Prop) : Prop := match st with
  | .long x :: .int j :: .ref a :: r => k x j a r
  | _ => False
def gqir (st : List Value) (k : Option Nat → Int32 → Nat → List Value → Prop) : Prop := match st with
  | .ref b :: .int j :: .ref a :: r => k (some b) j a r
  | .null :: .int j :: .ref a :: r => k none j a r
  | _ => False
def gdup (st : List Value) (k : List Value → Prop) : Prop := match st with
  | .int x :: r => k (.int x :: .int x :: r)
  | .ref x :: r => k (.ref x :: .ref x :: r)
  | _ => False
def gdup2 (st : List Value) (k : List Value → Prop) : Prop := match st with
  | .long x :: r => k (.long x :: .long x :: r)
  | .int x :: .ref y :: r => k (.int x :: .ref y :: .int x :: .ref y :: r)
  | .int x :: .int y :: r => k (.int x :: .int y :: .int x :: .int y :: r)
  | _ => False
def goi (o : Option Value) (k : Int32 → Prop) : Prop := match o with
  | some (.int x) => k x
  | _ => False
def gol (o : Option Value) (k : Int64 → Prop) : Prop := match o with
  | some (.long x) => k x
  | _ => False
def gor (o : Option Value) (k : Value → Prop) : Prop := match o with
  | some (.ref a) => k (.ref a)
  | some .null => k .null
  | _ => False
/-- a store into a field or place of a type -/
def gpv (ty : FieldType) (v : Value) (G : gS) (a k : Nat) (kk : gS → Prop) : Prop := match ty, v with
  | .int, .int i => kk (si G a k i)
  | .boolean, .int i => (i = 0 ∨ i = 1) ∧ kk (si G a k i)
  | .long, .long x => kk (sl G a k x)
  | .object _, .ref b => kk (sr G a k (some b))
  | .array _, .ref b => kk (sr G a k (some b))
  | .object _, .null => kk (sr G a k none)
  | .array _, .null => kk (sr G a k none)
  | _, _ => False
def gtab (x : Int32) (k : Int → Prop) (d : Int) : Int → List Int → Prop
  | _, [] => k d
  | v, o :: r => (Int32.ofInt v).toInt = v ∧ gbr (x = Int32.ofInt v) (k o) (gtab x k d (v + 1) r)
def glkp (x : Int32) (k : Int → Prop) (d : Int) : List (Int × Int) → Prop
  | [] => k d
  | (v, o) :: r => (Int32.ofInt v).toInt = v ∧ gbr (x = Int32.ofInt v) (k o) (glkp x k d r)
def gcat (st : List Value) : Nat := (st.map fun v => v.category).sum
def glup {α : Type} (i : Nat) : List (Nat × α) → Option α
  | [] => none
  | (j, x) :: r => if i = j then some x else glup i r
theorem glup_mem {α : Type} {i : Nat} {x : α} : ∀ {l : List (Nat × α)}, glup i l = some x → (i, x) ∈ l := by
  intro l
  induction l with
  | nil => intro h; cases h
  | cons q r ih =>
    intro h
    obtain ⟨j, y⟩ := q
    by_cases hj : i = j
    · subst hj
      have : y = x := by simpa [glup] using h
      subst this
      exact List.mem_cons_self
    · exact List.mem_cons_of_mem _ (ih (by simpa [glup, hj] using h))
def grcv (x : Nat) (l : List Value) (G : gS) : Prop := match x, l with
  | 0, _ => True
  | x + 1, .ref a :: _ => gsh G a = (1, x, 0)
  | _, _ => False
def gcall (ct : List (Nat × gC)) (idx cs ss Rc Rs : Nat) (st : List Value) (G : gS) (k : Nat → Nat → List Value → gS → Prop) : Prop := match glup idx ct with
  | some (n, x, S, mc, ms) => (st.take n).length = n ∧ gcat (st.drop n) ≤ 8 ∧ (cs + mc ≤ Rc ∧ ss + ms ≤ Rs) ∧ grcv x (st.take n).reverse G ∧ S (st.take n).reverse G (fun v G' => k (cs + mc) (ss + ms) (v.toList ++ st.drop n) G')
  | none => False
