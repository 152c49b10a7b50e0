section SND2
variable {p : Program} {l : Launch} {e : Env} {R : Room} {s : State} {m : MethodId} {args : Array Value} {below : List Frame} {meth : Method} {c : Code} {D : gD} {base nL : Nat} {Q : State → Prop}
variable {cc : ByteArray} {o : Nat} {ini : Bool} {H : Heap} {locs : List Loc} {ls : Array Slot} {cs ss pc : Nat} {rest : List Value} {G : gS}
theorem gg_isA {x n : Nat} (B : gB p s m args meth c cc nL o ini D base) (hx : x < 6) (f : Nat → Value) : s.isArrayOf (arrV (D.2 x) n f) (ety x) := ((B.2.2.2.2.2.2.1.1.2 x _ (gty_at D.2 hx)).1 n f)
theorem gg_iald {a : Nat} {j : Int32} (B : gB p s m args meth c cc nL o ini D base) (hH : gH D base G H) (h1 : (gsh G a).1 = 2) (h2 : (gsh G a).2.1 = 0) (hin : vp_in j (gsh G a).2.2) (hd : decode cc pc = .ok (.iaload, 1))
    (kk : W p l e R s m args below meth c H locs cs ss Q (F0 m (pc + 1) ls (.int (gi G a j.toNatClampNeg) :: rest))) : W p l e R s m args below meth c H locs cs ss Q (F0 m pc ls (.int j :: .ref a :: rest)) := by
  have hc := hH.arr h1
  rw [h2] at hc
  have hlt : j.toNatClampNeg < (gsh G a).2.2 := Nat.not_le.mp fun q => hin (Or.inr q)
  exact W.iald B.1 B.2.1 hc (gg_isA B (x := 0) (by decide) _) (fun q => by cases q) (by rw [arrV_size]; exact hin) (by rw [arrV_read _ _ hlt]; rfl) rfl rfl hd kk
theorem gg_zald {a : Nat} {j : Int32} (B : gB p s m args meth c cc nL o ini D base) (hH : gH D base G H) (h1 : (gsh G a).1 = 2) (h2 : (gsh G a).2.1 = 2) (hin : vp_in j (gsh G a).2.2) (hd : decode cc pc = .ok (.baload, 1))
    (kk : W p l e R s m args below meth c H locs cs ss Q (F0 m (pc + 1) ls (.int (gi G a j.toNatClampNeg) :: rest))) : W p l e R s m args below meth c H locs cs ss Q (F0 m pc ls (.int j :: .ref a :: rest)) := by
  have hc := hH.arr h1
  rw [h2] at hc
  have hlt : j.toNatClampNeg < (gsh G a).2.2 := Nat.not_le.mp fun q => hin (Or.inr q)
  exact W.zald B.1 B.2.1 hc (gg_isA B (x := 2) (by decide) _) (fun q => by cases q) (by rw [arrV_size]; exact hin) (by rw [arrV_read _ _ hlt]; rfl) rfl rfl hd kk
theorem gg_lald {a : Nat} {j : Int32} (B : gB p s m args meth c cc nL o ini D base) (hH : gH D base G H) (h1 : (gsh G a).1 = 2) (h2 : (gsh G a).2.1 = 1) (hin : vp_in j (gsh G a).2.2) (hd : decode cc pc = .ok (.laload, 1))
    (kk : W p l e R s m args below meth c H locs cs ss Q (F0 m (pc + 1) ls (.long (gl G a j.toNatClampNeg) :: rest))) : W p l e R s m args below meth c H locs cs ss Q (F0 m pc ls (.int j :: .ref a :: rest)) := by
  have hc := hH.arr h1
  rw [h2] at hc
  have hlt : j.toNatClampNeg < (gsh G a).2.2 := Nat.not_le.mp fun q => hin (Or.inr q)
  exact W.lald B.1 B.2.1 hc (gg_isA B (x := 1) (by decide) _) (fun q => by cases q) (by rw [arrV_size]; exact hin) (by rw [arrV_read _ _ hlt]; rfl) rfl rfl hd kk
theorem gety_q {x : Nat} (h : 3 ≤ x ∧ x < 6) : ∃ C, ety x = .object C := by
  rcases (show x = 3 ∨ x = 4 ∨ x = 5 by omega) with rfl | rfl | rfl <;> exact ⟨_, rfl⟩
theorem gg_aald {a : Nat} {j : Int32} (B : gB p s m args meth c cc nL o ini D base) (hH : gH D base G H) (h1 : (gsh G a).1 = 2) (h2 : 3 ≤ (gsh G a).2.1 ∧ (gsh G a).2.1 < 6) (hin : vp_in j (gsh G a).2.2) (hd : decode cc pc = .ok (.aaload, 1))
    (kk : W p l e R s m args below meth c H locs cs ss Q (F0 m (pc + 1) ls (va_rf (gr G a j.toNatClampNeg) :: rest))) : W p l e R s m args below meth c H locs cs ss Q (F0 m pc ls (.int j :: .ref a :: rest)) := by
  have hc := hH.arr h1
  obtain ⟨C, hC⟩ := gety_q h2
  have hlt : j.toNatClampNeg < (gsh G a).2.2 := Nat.not_le.mp fun q => hin (Or.inr q)
  exact W.aald (v := va_rf (gr G a j.toNatClampNeg)) (ty := .object C) B.1 B.2.1 hc (by have := gg_isA B (x := (gsh G a).2.1) (n := (gsh G a).2.2) h2.2 (fun j => fval (ety (gsh G a).2.1) (gi G a j) (gl G a j) (gr G a j)); rw [hC] at this ⊢; exact this) rfl (fun q => by cases q) (by rw [arrV_size]; exact hin) (by rw [arrV_read _ _ hlt, hC]; rfl) rfl rfl hd kk
theorem gg_alen {a : Nat} (B : gB p s m args meth c cc nL o ini D base) (hH : gH D base G H) (h1 : (gsh G a).1 = 2) (h2 : (gsh G a).2.1 < 6) (hd : decode cc pc = .ok (.arraylength, 1))
    (kk : W p l e R s m args below meth c H locs cs ss Q (F0 m (pc + 1) ls (.int (Int32.ofNat (gsh G a).2.2) :: rest))) : W p l e R s m args below meth c H locs cs ss Q (F0 m pc ls (.ref a :: rest)) :=
  W.alen B.1 B.2.1 (hH.arr h1) (gg_isA B h2 _) (by rw [arrV_size]) rfl rfl hd kk
/-- a store into an array: the ghost heap behind it -/
theorem gg_ast {a j : Nat} {v : Value} {G' : gS} {H1 : Heap} (hH : gH D base G H) (h1 : (gsh G a).1 = 2)
    (hs : ∀ b, gsh G' b = gsh G b) (hz : gsz G' = gsz G) (hi : ∀ b, b ≠ a → ∀ k, gi G' b k = gi G b k) (hl : ∀ b, b ≠ a → ∀ k, gl G' b k = gl G b k) (hr : ∀ b, b ≠ a → ∀ k, gr G' b k = gr G b k)
    (hv : ∀ k, fval (ety (gsh G a).2.1) (gi G' a k) (gl G' a k) (gr G' a k) = updV (fun k => fval (ety (gsh G a).2.1) (gi G a k) (gl G a k) (gr G a k)) j v k)
    (e1 : H1[a]? = some ((arrV (D.2 (gsh G a).2.1) (gsh G a).2.2 (fun j => fval (ety (gsh G a).2.1) (gi G a j) (gl G a j) (gr G a j))).setSlot j v)) (e2 : H1.size = H.size) (e3 : ∀ q, q ≠ a → H1[q]? = H[q]?) : gH D base G' H1 := by
  refine hH.put hs hz hi hl hr e2 e3 ⟨fun h => absurd h (by rw [hs, h1]; decide), fun _ => ?_⟩
  rw [hs, e1, arrV_store]
  congr 2
  funext k
  exact (hv k).symm
theorem gg_iast {a : Nat} {j x : Int32} (B : gB p s m args meth c cc nL o ini D base) (hH : gH D base G H) (hS : va_S (fun q : Nat => base ≤ q) s.heap H locs) (h1 : (gsh G a).1 = 2) (h2 : (gsh G a).2.1 = 0) (hin : vp_in j (gsh G a).2.2) (hd : decode cc pc = .ok (.iastore, 1))
    (kk : ∀ (H1 : Heap) (locs1 : List Loc), gH D base (si G a j.toNatClampNeg x) H1 → va_S (fun q : Nat => base ≤ q) s.heap H1 locs1 → W p l e R s m args below meth c H1 locs1 cs ss Q (F0 m (pc + 1) ls rest)) : W p l e R s m args below meth c H locs cs ss Q (F0 m pc ls (.int x :: .int j :: .ref a :: rest)) := by
  have hc := hH.arr h1
  have haA : base ≤ a := (hH.2.2.2 a (by rw [h1]; decide)).1
  refine W.iast B.1 B.2.1 hc (by rw [h2]; exact gg_isA B (x := 0) (by decide) _) (fun q => by cases q) (by rw [arrV_size]; exact hin) rfl rfl hd fun H1 e1 e2 e3 => ?_
  refine kk H1 _ (gg_ast hH h1 (fun _ => rfl) rfl (fun b hb k => by rw [gi_si, if_neg (fun q => hb q.1)]) (fun _ _ _ => rfl) (fun _ _ _ => rfl) (fun k => ?_) e1 e2 e3) (hS.put e2 e3 haA)
  rw [h2]
  by_cases hk : k = j.toNatClampNeg
  · simp [updV, hk, gi_si, fval, ety]
  · simp [updV, hk, gi_si, gl_si, gr_si]
theorem gg_zast {a : Nat} {j x : Int32} (B : gB p s m args meth c cc nL o ini D base) (hH : gH D base G H) (hS : va_S (fun q : Nat => base ≤ q) s.heap H locs) (h1 : (gsh G a).1 = 2) (h2 : (gsh G a).2.1 = 2) (hin : vp_in j (gsh G a).2.2) (hx : x = 0 ∨ x = 1) (hd : decode cc pc = .ok (.bastore, 1))
    (kk : ∀ (H1 : Heap) (locs1 : List Loc), gH D base (si G a j.toNatClampNeg x) H1 → va_S (fun q : Nat => base ≤ q) s.heap H1 locs1 → W p l e R s m args below meth c H1 locs1 cs ss Q (F0 m (pc + 1) ls rest)) : W p l e R s m args below meth c H locs cs ss Q (F0 m pc ls (.int x :: .int j :: .ref a :: rest)) := by
  have hc := hH.arr h1
  have haA : base ≤ a := (hH.2.2.2 a (by rw [h1]; decide)).1
  have hnw : narrow .boolean (.int x) = .int x := by rcases hx with rfl | rfl <;> rfl
  refine W.zast B.1 B.2.1 hc (by rw [h2]; exact gg_isA B (x := 2) (by decide) _) (fun q => by cases q) (by rw [arrV_size]; exact hin) rfl rfl hd fun H1 e1 e2 e3 => ?_
  rw [hnw] at e1
  refine kk H1 _ (gg_ast hH h1 (fun _ => rfl) rfl (fun b hb k => by rw [gi_si, if_neg (fun q => hb q.1)]) (fun _ _ _ => rfl) (fun _ _ _ => rfl) (fun k => ?_) e1 e2 e3) (hS.put e2 e3 haA)
  rw [h2]
  by_cases hk : k = j.toNatClampNeg
  · simp [updV, hk, gi_si, fval, ety]
  · simp [updV, hk, gi_si, gl_si, gr_si]
theorem gg_last {a : Nat} {j : Int32} {x : Int64} (B : gB p s m args meth c cc nL o ini D base) (hH : gH D base G H) (hS : va_S (fun q : Nat => base ≤ q) s.heap H locs) (h1 : (gsh G a).1 = 2) (h2 : (gsh G a).2.1 = 1) (hin : vp_in j (gsh G a).2.2) (hd : decode cc pc = .ok (.lastore, 1))
    (kk : ∀ (H1 : Heap) (locs1 : List Loc), gH D base (sl G a j.toNatClampNeg x) H1 → va_S (fun q : Nat => base ≤ q) s.heap H1 locs1 → W p l e R s m args below meth c H1 locs1 cs ss Q (F0 m (pc + 1) ls rest)) : W p l e R s m args below meth c H locs cs ss Q (F0 m pc ls (.long x :: .int j :: .ref a :: rest)) := by
  have hc := hH.arr h1
  have haA : base ≤ a := (hH.2.2.2 a (by rw [h1]; decide)).1
  refine W.last B.1 B.2.1 hc (by rw [h2]; exact gg_isA B (x := 1) (by decide) _) (fun q => by cases q) (by rw [arrV_size]; exact hin) rfl rfl hd fun H1 e1 e2 e3 => ?_
  refine kk H1 _ (gg_ast hH h1 (fun _ => rfl) rfl (fun _ _ _ => rfl) (fun b hb k => by rw [gl_sl, if_neg (fun q => hb q.1)]) (fun _ _ _ => rfl) (fun k => ?_) e1 e2 e3) (hS.put e2 e3 haA)
  rw [h2]
  by_cases hk : k = j.toNatClampNeg
  · simp [updV, hk, gl_sl, fval, ety]
  · simp [updV, hk, gi_sl, gl_sl, gr_sl]
theorem gelx_ok {t : Nat} (h : 3 ≤ t ∧ t < 6) : ∃ (C : String) (T : u_T) (N : Nat), vwCl[gelx t]? = some (C, T, N) ∧ ety t = .object C := by
  rcases (show t = 3 ∨ t = 4 ∨ t = 5 by omega) with rfl | rfl | rfl <;> exact ⟨_, _, _, rfl, rfl⟩
theorem gg_aast {a : Nat} {j : Int32} {b : Option Nat} (B : gB p s m args meth c cc nL o ini D base) (hH : gH D base G H) (hS : va_S (fun q : Nat => base ≤ q) s.heap H locs) (h1 : (gsh G a).1 = 2) (h2 : 3 ≤ (gsh G a).2.1 ∧ (gsh G a).2.1 < 6) (hin : vp_in j (gsh G a).2.2) (hb : ∀ q, b = some q → gsh G q = (1, gelx (gsh G a).2.1, 0)) (hd : decode cc pc = .ok (.aastore, 1))
    (kk : ∀ (H1 : Heap) (locs1 : List Loc), gH D base (sr G a j.toNatClampNeg b) H1 → va_S (fun q : Nat => base ≤ q) s.heap H1 locs1 → W p l e R s m args below meth c H1 locs1 cs ss Q (F0 m (pc + 1) ls rest)) : W p l e R s m args below meth c H locs cs ss Q (F0 m pc ls (va_rf b :: .int j :: .ref a :: rest)) := by
  have hc := hH.arr h1
  have haA : base ≤ a := (hH.2.2.2 a (by rw [h1]; decide)).1
  obtain ⟨C, T, N, hcl, hC⟩ := gelx_ok h2
  have hK := B.2.2.2.2.2.2.1.1
  have fin : ∀ H1 : Heap, H1[a]? = some ((arrV (D.2 (gsh G a).2.1) (gsh G a).2.2 (fun j => fval (ety (gsh G a).2.1) (gi G a j) (gl G a j) (gr G a j))).setSlot j.toNatClampNeg (va_rf b)) → H1.size = H.size → (∀ q, q ≠ a → H1[q]? = H[q]?) → W p l e R s m args below meth c H1 (locs ++ [⟨a, j.toNatClampNeg⟩]) cs ss Q (F0 m (pc + 1) ls rest) := by
    intro H1 e1 e2 e3
    refine kk H1 _ (gg_ast hH h1 (fun _ => rfl) rfl (fun _ _ _ => rfl) (fun _ _ _ => rfl) (fun b hb k => by rw [gr_sr, if_neg (fun q => hb q.1)]) (fun k => ?_) e1 e2 e3) (hS.put e2 e3 haA)
    rw [hC]
    by_cases hk : k = j.toNatClampNeg
    · simp [updV, hk, gr_sr, fval]
    · simp [updV, hk, gi_sr, gl_sr, gr_sr]
  cases b with
  | none =>
    exact va_WaastN B.1 B.2.1 hc (by rw [← hC]; exact gg_isA B h2.2 _) (fun q => by cases q) (by rw [arrV_size]; exact hin) rfl rfl hd fin
  | some v =>
    have hlt : j.toNatClampNeg < (gsh G a).2.2 := Nat.not_le.mp fun q => hin (Or.inr q)
    have h0 : ¬ j < 0 := fun q => hin (Or.inl q)
    obtain ⟨r', hr', cellV, g1, g2, g3, -⟩ := hH.obj (hb v rfl)
    have hcls := (hK.1 _ _ hcl).2
    have hra := (hK.2 _ _ (gty_at D.2 h2.2)).2
    rw [hC] at hra
    obtain ⟨kA, comp, k1, k2, k3, -⟩ := hra
    have hcomp : comp = D.1.1 (gelx (gsh G a).2.1) := Option.some.inj (k3.symm.trans hcls.1)
    subst hcomp
    obtain ⟨kC, hkC, -⟩ := id hcls.2
    exact W.aast B.1 B.2.1 hc (fun q h => by cases h) (fun h => by cases h) k1 k2 rfl hkC ⟨h0, by rw [arrV_size]; exact hlt⟩ g1 (fun q h => by rw [g3] at h; cases h) (by rw [g2]; exact hkC) (by rw [g2]; exact va_assign hcls) rfl rfl hd fin
theorem gdef_ok (ty : FieldType) (h : ty ≠ .float ∧ ty ≠ .double) : defaultValue ty = fval ty 0 0 none := by
  cases ty <;> first | rfl | exact absurd rfl h.1 | exact absurd rfl h.2
theorem gcty_ok {x : Nat} {r : vw_C} (h : vwCl[x]? = some r) : ∀ k, k < r.2.2 → cty x k ≠ .float ∧ cty x k ≠ .double := by
  match x, h with
  | 0, h => cases h; decide +kernel
  | 1, h => cases h; decide +kernel
  | 2, h => cases h; decide +kernel
  | 3, h => cases h; decide +kernel
  | 4, h => cases h; decide +kernel
  | 5, h => cases h; decide +kernel
  | 6, h => cases h; decide +kernel
  | x + 7, h => simp [vwCl] at h
theorem va_S.grow {A : Nat → Prop} {H0 H H1 : Heap} {locs : List Loc} (h : va_S A H0 H locs) (z : H.size ≤ H1.size) (oq : ∀ q : Nat, q < H.size → H1[q]? = H[q]?) : va_S A H0 H1 locs :=
  ⟨Nat.le_trans h.1 z, fun q h1 h2 => (oq q (Nat.lt_of_lt_of_le h1 h.1)).trans (h.2.1 q h1 h2), h.2.2⟩
theorem gg_new {ix x : Nat} (B : gB p s m args meth c cc nL o ini D base) (hH : gH D base G H) (hS : va_S (fun q : Nat => base ≤ q) s.heap H locs) (hx : gCL o ix = some x) (hc : cs + 1 ≤ R.cells) (hsl : ss + gcn x ≤ R.slots) (hd : decode cc pc = .ok (.new ix, 3))
    (kk : ∀ (H1 : Heap), gH D base (gnw G (1, x, 0)) H1 → va_S (fun q : Nat => base ≤ q) s.heap H1 locs → W p l e R s m args below meth c H1 locs (cs + 1) (ss + gcn x) Q (F0 m (pc + 3) ls (.ref (gsz G) :: rest))) : W p l e R s m args below meth c H locs cs ss Q (F0 m pc ls rest) := by
  obtain ⟨C, T, N, hcl, w1, w2, w3⟩ := gCL_ok hx
  obtain ⟨hin, hty, hnm⟩ := gcl_ok hcl
  have hK := B.2.2.2.2.2.2.1.1
  have hts := B.2.2.2.2.1
  have hKn := hK.1 x _ hcl
  have hN : gcn x = N := by unfold gcn; rw [hcl]
  rw [hN] at hsl kk
  refine W.newcK B.1 B.2.1 B.2.2.2.1 (hts _ w1) (hts _ w2) (hts _ w3) rfl hd hc hsl hKn.2.1 hH.1 fun H1 kC hkC e1 z1 o1 => ?_
  refine kk H1 (hH.new z1 (fun q h => o1 q h) ⟨fun _ => ?_, fun h => absurd h (by rw [gsh_nw, if_pos rfl]; simp)⟩) (hS.grow (by rw [z1, hH.1]; omega) (fun q h => o1 q (by rw [← hH.1]; exact h)))
  rw [gsh_nw, if_pos rfl]
  refine ⟨_, hcl, (u_born (cty x) hts hin hKn hkC e1 hty).to fun j hj => ?_⟩
  rw [gi_nw, gl_nw, gr_nw, if_pos rfl, if_pos rfl, if_pos rfl]
  exact gdef_ok _ (gcty_ok hcl j hj)
theorem gatt_ok {t : ArrayType} {x : Nat} (h : gatt t = some x) : x < 3 ∧ newarray.typeOf t = ety x ∧ Cond.arrayClass (newarray.typeOf t) ∈ gT := by
  cases t <;> first | (cases h; exact ⟨by decide, rfl, gac_int⟩) | (cases h; exact ⟨by decide, rfl, gac_long⟩) | (cases h; exact ⟨by decide, rfl, gac_boolean⟩) | cases h
theorem gg_same {D : gD} {x : Nat} {cA : ClassId} (hK : gK D s) (hx : x < 6) (h : s.vm.findClass ("[" ++ (ety x).toString) = some cA) : cA = D.2 x := by
  have hra := (hK.2 _ _ (gty_at D.2 hx)).2
  rcases (show x = 0 ∨ x = 1 ∨ x = 2 ∨ x = 3 ∨ x = 4 ∨ x = 5 by omega) with rfl | rfl | rfl | rfl | rfl | rfl
  · exact Option.some.inj (h.symm.trans hra)
  · exact Option.some.inj (h.symm.trans hra)
  · exact Option.some.inj (h.symm.trans hra)
  · obtain ⟨_, _, _, _, _, h4⟩ := hra; exact Option.some.inj (h.symm.trans h4)
  · obtain ⟨_, _, _, _, _, h4⟩ := hra; exact Option.some.inj (h.symm.trans h4)
  · obtain ⟨_, _, _, _, _, h4⟩ := hra; exact Option.some.inj (h.symm.trans h4)
theorem gg_newa {t : ArrayType} {x : Nat} {n : Int32} (B : gB p s m args meth c cc nL o ini D base) (hH : gH D base G H) (hS : va_S (fun q : Nat => base ≤ q) s.heap H locs) (hx : gatt t = some x) (hn : ¬ n < 0) (hle : n.toNatClampNeg ≤ 10000) (hc : cs + 1 ≤ R.cells) (hsl : ss + n.toNatClampNeg ≤ R.slots) (hd : decode cc pc = .ok (.newarray t, 2))
    (kk : ∀ (H1 : Heap), gH D base (gnw G (2, x, n.toNatClampNeg)) H1 → va_S (fun q : Nat => base ≤ q) s.heap H1 locs → W p l e R s m args below meth c H1 locs (cs + 1) (ss + n.toNatClampNeg) Q (F0 m (pc + 2) ls (.ref (gsz G) :: rest))) : W p l e R s m args below meth c H locs cs ss Q (F0 m pc ls (.int n :: rest)) := by
  obtain ⟨hx3, hty, w⟩ := gatt_ok hx
  have hK := B.2.2.2.2.2.2.1.1
  refine va_newaK B.1 B.2.1 (B.2.2.2.2.1 _ w) rfl hd rfl hn rfl (by cases t <;> simp [newarray.typeOf, componentBytes] <;> omega) hc hsl hH.1 fun H1 cA e1 z1 o1 hAr hNm => ?_
  rw [hty] at e1 hNm
  have hcA := gg_same hK (by omega) hNm
  refine kk H1 (hH.new z1 (fun q h => o1 q h) ⟨fun h => absurd h (by rw [gsh_nw, if_pos rfl]; simp), fun _ => ?_⟩) (hS.grow (by rw [z1, hH.1]; omega) (fun q h => o1 q (by rw [← hH.1]; exact h)))
  rw [gsh_nw, if_pos rfl, e1, hcA]
  congr 2
  funext j
  rw [gi_nw, gl_nw, gr_nw, if_pos rfl, if_pos rfl, if_pos rfl]
  rcases (show x = 0 ∨ x = 1 ∨ x = 2 by omega) with rfl | rfl | rfl <;> rfl
theorem gxe_ok {x : Nat} (h : x = 0 ∨ x = 2 ∨ x = 3) : ∃ (C : String) (T : u_T) (N : Nat), vwCl[x]? = some (C, T, N) ∧ ety (gxe x) = .object C ∧ gxe x < 6 := by
  rcases h with rfl | rfl | rfl <;> exact ⟨_, _, _, rfl, rfl, by decide⟩
theorem gg_anew {ix x : Nat} {n : Int32} (B : gB p s m args meth c cc nL o ini D base) (hH : gH D base G H) (hS : va_S (fun q : Nat => base ≤ q) s.heap H locs) (hx : gCL o ix = some x) (hx3 : x = 0 ∨ x = 2 ∨ x = 3) (hn : ¬ n < 0) (hle : n.toNatClampNeg ≤ 10000) (hc : cs + 1 ≤ R.cells) (hsl : ss + n.toNatClampNeg ≤ R.slots) (hd : decode cc pc = .ok (.anewarray ix, 3))
    (kk : ∀ (H1 : Heap), gH D base (gnw G (2, gxe x, n.toNatClampNeg)) H1 → va_S (fun q : Nat => base ≤ q) s.heap H1 locs → W p l e R s m args below meth c H1 locs (cs + 1) (ss + n.toNatClampNeg) Q (F0 m (pc + 3) ls (.ref (gsz G) :: rest))) : W p l e R s m args below meth c H locs cs ss Q (F0 m pc ls (.int n :: rest)) := by
  obtain ⟨C, T, N, hcl, w1, w2, w3⟩ := gCL_ok hx
  obtain ⟨C', T', N', hcl', hC, hlt⟩ := gxe_ok hx3
  rw [hcl] at hcl'
  cases hcl'
  have hK := B.2.2.2.2.2.2.1
  have hao : va_AO C s := by
    rcases hx3 with rfl | rfl | rfl <;> cases hcl
    · exact hK.2.1.1
    · exact hK.2.1.2.1
    · exact hK.2.1.2.2
  refine W.anew B.1 B.2.1 B.2.2.2.1 (B.2.2.2.2.1 _ w1) (va_AO.use hao) rfl hd rfl hn (by omega) hc hsl fun cA kA comp f1 f2 f3 f4 => ?_
  have hcA : cA = D.2 (gxe x) := gg_same hK.1 hlt (by rw [hC]; exact f1)
  have hz := hH.1
  have z1 : (H.push { cls := cA, slots := Array.replicate n.toNatClampNeg .null, vm := .none }).size = gsz G + 1 := by rw [Array.size_push, hz]
  have o1 : ∀ q, q < gsz G → (H.push { cls := cA, slots := Array.replicate n.toNatClampNeg .null, vm := .none })[q]? = H[q]? := fun q hq => by
    rw [Array.getElem?_push, if_neg (by omega)]
  have hst : H.size = gsz G := hz
  rw [hst]
  refine kk _ (hH.new z1 o1 ⟨fun h => absurd h (by rw [gsh_nw, if_pos rfl]; simp), fun _ => ?_⟩) (hS.grow (by rw [z1, hz]; omega) (fun q h => o1 q (by rw [← hz]; exact h)))
  rw [gsh_nw, if_pos rfl, Array.getElem?_push, if_pos hst.symm, arrV_new, hcA]
  congr 2
  funext j
  rw [gi_nw, gl_nw, gr_nw, if_pos rfl, if_pos rfl, if_pos rfl]
  show Value.null = fval (ety (gxe x)) 0 0 none
  rw [hC]; rfl
end SND2
