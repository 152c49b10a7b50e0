/-! ===== FusionRules$Run.go ===== -/
noncomputable def gol (R : sR) (L : List sA) (P : sP) (en : Int32) : Nat → sT → Nat → Option Nat → Int64 → sT × Nat × Option Nat × Int64
  | 0, T, g, la, x => (T, g, la, x)
  | m + 1, T, g, la, x => match (askP R L P L.length T).2 with
    | none => ((askP R L P L.length T).1, g, la, x)
    | some e => if (enP R L en (askP R L P L.length T).1 e x).2.2 = true then ((enP R L en (askP R L P L.length T).1 e x).1, g + 1, some e, (enP R L en (askP R L P L.length T).1 e x).2.1) else gol R L P en m (enP R L en (askP R L P L.length T).1 e x).1 (g + 1) (some e) (enP R L en (askP R L P L.length T).1 e x).2.1
noncomputable def finP (R : sR) (L : List sA) (en : Int32) (q : sT × Nat × Option Nat × Int64) : sT × Nat × Int64 × Int32 := ((lstP R L en q.1 q.2.2.1 (if en = 1 then lN q.2.1 else q.2.2.2)).1, q.2.1, (lstP R L en q.1 q.2.2.1 (if en = 1 then lN q.2.1 else q.2.2.2)).2, ansP en (lstP R L en q.1 q.2.2.1 (if en = 1 then lN q.2.1 else q.2.2.2)).1 q.2.1)
noncomputable def rnP (R : sR) (L : List sA) (P : sP) (en : Int32) : sT × Nat × Int64 × Int32 := finP R L en (gol R L P en 401 T0 0 none 0)
theorem IT_en {R : sR} {L : List sA} {en : Int32} {j e : Nat} {T : sT} {x : Int64} (h : IT L j T) (he : e < tN T) : IT L j (enP R L en T e x).1 ∧ tN (enP R L en T e x).1 = tN T := by
  have hw := (h.wk (R := R) he).1
  have hN : tN (wkT R L e T) = tN T := rfl
  unfold enP
  repeat' split
  all_goals first | exact ⟨h, rfl⟩ | exact ⟨hw, hN⟩
def S_X5_go : gSp := fun av G post => ∃ (X a : Nat) (π : Nat → Nat) (L : List sA) (R : sR) (P : sP) (en : Int32), av = [.ref (X + 144), .ref a, .int en] ∧ RS X R a π L G ∧ gi G a 2 = P.1 ∧ gl G a 3 = P.2.1 ∧ gl G a 4 = P.2.2.1 ∧ (P.1 = 0 → gi G a 5 = P.2.2.2.1) ∧ (P.1 = 1 → gi G a 6 = P.2.2.2.1) ∧ okR R L P ∧
  ∀ G', RW X a π L R P (rnP R L P en).1 G' → frm (runC X) G G' → gi G' (X + 144) 3 = nI (rnP R L P en).2.1 → gl G' (X + 144) 4 = (rnP R L P en).2.2.1 → post (some (.int (rnP R L P en).2.2.2)) G'
