/-! ===== the judgement follows from one instruction's condition ===== -/
theorem goi_s {o : Option Value} {k : Int32 → Prop} (h : goi o k) : ∃ x, o = some (.int x) ∧ k x := by
  unfold goi at h; split at h
  · exact ⟨_, rfl, h⟩
  · exact h.elim
theorem gol_s {o : Option Value} {k : Int64 → Prop} (h : gol o k) : ∃ x, o = some (.long x) ∧ k x := by
  unfold gol at h; split at h
  · exact ⟨_, rfl, h⟩
  · exact h.elim
theorem gor_s {o : Option Value} {k : Value → Prop} (h : gor o k) : (∃ a, o = some (.ref a) ∧ k (.ref a)) ∨ (o = some .null ∧ k .null) := by
  unfold gor at h; split at h
  · exact Or.inl ⟨_, rfl, h⟩
  · exact Or.inr ⟨rfl, h⟩
  · exact h.elim
theorem g1i_s {st : List Value} {k : Int32 → List Value → Prop} (h : g1i st k) : ∃ x r, st = .int x :: r ∧ k x r := by
  unfold g1i at h; split at h
  · exact ⟨_, _, rfl, h⟩
  · exact h.elim
theorem g2i_s {st : List Value} {k : Int32 → Int32 → List Value → Prop} (h : g2i st k) : ∃ x y r, st = .int y :: .int x :: r ∧ k x y r := by
  unfold g2i at h; split at h
  · exact ⟨_, _, _, rfl, h⟩
  · exact h.elim
theorem g1l_s {st : List Value} {k : Int64 → List Value → Prop} (h : g1l st k) : ∃ x r, st = .long x :: r ∧ k x r := by
  unfold g1l at h; split at h
  · exact ⟨_, _, rfl, h⟩
  · exact h.elim
theorem g2l_s {st : List Value} {k : Int64 → Int64 → List Value → Prop} (h : g2l st k) : ∃ x y r, st = .long y :: .long x :: r ∧ k x y r := by
  unfold g2l at h; split at h
  · exact ⟨_, _, _, rfl, h⟩
  · exact h.elim
theorem gil_s {st : List Value} {k : Int64 → Int32 → List Value → Prop} (h : gil st k) : ∃ x y r, st = .int y :: .long x :: r ∧ k x y r := by
  unfold gil at h; split at h
  · exact ⟨_, _, _, rfl, h⟩
  · exact h.elim
theorem g1r_s {st : List Value} {k : Nat → List Value → Prop} (h : g1r st k) : ∃ x r, st = .ref x :: r ∧ k x r := by
  unfold g1r at h; split at h
  · exact ⟨_, _, rfl, h⟩
  · exact h.elim
theorem g1q_s {st : List Value} {k : Value → List Value → Prop} (h : g1q st k) : (∃ a r, st = .ref a :: r ∧ k (.ref a) r) ∨ (∃ r, st = .null :: r ∧ k .null r) := by
  unfold g1q at h; split at h
  · exact Or.inl ⟨_, _, rfl, h⟩
  · exact Or.inr ⟨_, rfl, h⟩
  · exact h.elim
theorem goq_s {st : List Value} {k : Option Nat → List Value → Prop} (h : goq st k) : ∃ b r, st = va_rf b :: r ∧ k b r := by
  unfold goq at h; split at h
  · exact ⟨some _, _, rfl, h⟩
  · exact ⟨none, _, rfl, h⟩
  · exact h.elim
theorem gvr_s {st : List Value} {k : Value → Nat → List Value → Prop} (h : gvr st k) : ∃ v a r, st = v :: .ref a :: r ∧ k v a r := by
  unfold gvr at h; split at h
  · exact ⟨_, _, _, rfl, h⟩
  · exact h.elim
theorem gir_s {st : List Value} {k : Int32 → Nat → List Value → Prop} (h : gir st k) : ∃ j a r, st = .int j :: .ref a :: r ∧ k j a r := by
  unfold gir at h; split at h
  · exact ⟨_, _, _, rfl, h⟩
  · exact h.elim
theorem giir_s {st : List Value} {k : Int32 → Int32 → Nat → List Value → Prop} (h : giir st k) : ∃ x j a r, st = .int x :: .int j :: .ref a :: r ∧ k x j a r := by
  unfold giir at h; split at h
  · exact ⟨_, _, _, _, rfl, h⟩
  · exact h.elim
theorem glir_s {st : List Value} {k : Int64 → Int32 → Nat → List Value → Prop} (h : glir st k) : ∃ x j a r, st = .long x :: .int j :: .ref a :: r ∧ k x j a r := by
  unfold glir at h; split at h
  · exact ⟨_, _, _, _, rfl, h⟩
  · exact h.elim
theorem gqir_s {st : List Value} {k : Option Nat → Int32 → Nat → List Value → Prop} (h : gqir st k) : ∃ b j a r, st = va_rf b :: .int j :: .ref a :: r ∧ k b j a r := by
  unfold gqir at h; split at h
  · exact ⟨some _, _, _, _, rfl, h⟩
  · exact ⟨none, _, _, _, rfl, h⟩
  · exact h.elim
theorem gty_at {x : Nat} (dA : Nat → ClassId) (h : x < 6) : (gtys dA)[x]? = some (dA x, ety x) := by
  rcases (show x = 0 ∨ x = 1 ∨ x = 2 ∨ x = 3 ∨ x = 4 ∨ x = 5 by omega) with rfl | rfl | rfl | rfl | rfl | rfl <;> rfl
theorem gFL_ok {o ix x k u : Nat} (h : gFL o ix = some (x, k, u)) : ∃ (C : String) (T : u_T) (N : Nat), vwCl[x]? = some (C, T, N) ∧ k < N ∧ Cond.fieldLink (gown o) ix (T k).1 (T k).2.1 (T k).2.2.1 ∈ gT ∧ (u = 0 → (T k).2.2.2 = false) ∧ (u = 1 → (T k).2.2.2 = true ∧ (T k).1 = gown o) := by
  unfold gFL at h
  split at h
  · have := gflt_ok _ (glup_mem h)
    unfold gfok at this
    rw [show (1000 * o + ix) / 1000 = o by omega, show (1000 * o + ix) % 1000 = ix by omega] at this
    exact this
  · cases h
theorem gCL_ok {o ix x : Nat} (h : gCL o ix = some x) : ∃ (C : String) (T : u_T) (N : Nat), vwCl[x]? = some (C, T, N) ∧ Cond.classLink (gown o) ix C ∈ gT ∧ Cond.instantiable C N ∈ gT ∧ Cond.initialized C ∈ gT := by
  unfold gCL at h
  split at h
  · have := gclt_ok _ (glup_mem h)
    unfold gcok at this
    rw [show (1000 * o + ix) / 1000 = o by omega, show (1000 * o + ix) % 1000 = ix by omega] at this
    exact this
  · cases h
theorem gLC_ok {o ix : Nat} {v : Int64} (h : gLC o ix = some v) : Cond.constantLong (gown o) ix v ∈ gT := by
  unfold gLC at h
  split at h
  · have := gllt_ok _ (glup_mem h)
    unfold glok at this
    rw [show (1000 * o + ix) / 1000 = o by omega, show (1000 * o + ix) % 1000 = ix by omega] at this
    exact this
  · cases h
theorem gOI_ok {o ix x : Nat} (h : gOI o ix = some x) : Cond.methodLink (gown o) ix objectInit ∈ gT := by
  unfold gOI at h
  split at h
  · have := goit_ok _ (glup_mem h)
    rw [show (1000 * o + ix) / 1000 = o by omega, show (1000 * o + ix) % 1000 = ix by omega] at this
    exact this
  · cases h
theorem gH.obj {D : gD} {base : Nat} {G : gS} {H : Heap} {a x : Nat} (h : gH D base G H) (hs : gsh G a = (1, x, 0)) : ∃ r : vw_C, vwCl[x]? = some r ∧ t_OB a (D.1.1 x) r.2.2 (D.1.2 x) H (fun k => fval (cty x k) (gi G a k) (gl G a k) (gr G a k)) := by
  have := (h.2.2.1 a).1 (by rw [hs])
  rw [hs] at this
  exact this
theorem gH.arr {D : gD} {base : Nat} {G : gS} {H : Heap} {a : Nat} (h : gH D base G H) (h1 : (gsh G a).1 = 2) : H[a]? = some (arrV (D.2 (gsh G a).2.1) (gsh G a).2.2 (fun j => fval (ety (gsh G a).2.1) (gi G a j) (gl G a j) (gr G a j))) := (h.2.2.1 a).2 h1
/-- a new cell -/
theorem gH.new {D : gD} {base : Nat} {G : gS} {H H1 : Heap} {sh : Nat × Nat × Nat} (h : gH D base G H) (z : H1.size = gsz G + 1) (oq : ∀ q : Nat, q < gsz G → H1[q]? = H[q]?) (ha : gAt D (gnw G sh) H1 (gsz G)) : gH D base (gnw G sh) H1 := by
  obtain ⟨h1, h2, h3, h4⟩ := h
  refine ⟨by rw [z, gsz_nw], by rw [gsz_nw]; omega, fun b => ?_, fun b hb => ?_⟩
  · by_cases hb : b = gsz G
    · rw [hb]; exact ha
    · have e1 : gsh (gnw G sh) b = gsh G b := by rw [gsh_nw, if_neg hb]
      have e2 : ∀ k, gi (gnw G sh) b k = gi G b k := fun k => by rw [gi_nw, if_neg hb]
      have e3 : ∀ k, gl (gnw G sh) b k = gl G b k := fun k => by rw [gl_nw, if_neg hb]
      have e4 : ∀ k, gr (gnw G sh) b k = gr G b k := fun k => by rw [gr_nw, if_neg hb]
      by_cases hl : b < gsz G
      · have h5 := (h3 b).kept (oq b hl)
        refine ⟨fun q => ?_, fun q => ?_⟩
        · rw [e1] at q ⊢
          obtain ⟨r, f1, f2⟩ := h5.1 q
          refine ⟨r, f1, ?_⟩
          simp only [e2, e3, e4]
          exact f2
        · rw [e1] at q ⊢
          have f := h5.2 q
          simp only [e2, e3, e4]
          exact f
      · have h0 : (gsh G b).1 = 0 := by
          by_cases q : (gsh G b).1 = 0
          · exact q
          · exact absurd (h4 b q).2 hl
        exact ⟨fun q => absurd q (by rw [e1, h0]; decide), fun q => absurd q (by rw [e1, h0]; decide)⟩
  · by_cases hq : b = gsz G
    · rw [hq, gsz_nw]; exact ⟨h2, Nat.lt_succ_self _⟩
    · rw [gsh_nw, if_neg hq] at hb
      have := h4 b hb
      rw [gsz_nw]
      exact ⟨this.1, Nat.lt_succ_of_lt this.2⟩
section SND
variable {p : Program} {l : Launch} {e : Env} {R : Room} {s : State} {m : MethodId} {args : Array Value} {below : List Frame} {meth : Method} {c : Code} {D : gD} {base nL : Nat} {Q : State → Prop}
variable {cc : ByteArray} {o : Nat} {ini : Bool} {H : Heap} {locs : List Loc} {ls : Array Slot} {cs ss pc : Nat} {rest : List Value} {G : gS}
theorem gg_get {a x k u ix : Nat} (B : gB p s m args meth c cc nL o ini D base) (hH : gH D base G H) (hsh : gsh G a = (1, x, 0)) (hf : gFL o ix = some (x, k, u)) (hd : decode cc pc = .ok (.getfield ix, 3))
    (kk : W p l e R s m args below meth c H locs cs ss Q (F0 m (pc + 3) ls (fval (cty x k) (gi G a k) (gl G a k) (gr G a k) :: rest))) : W p l e R s m args below meth c H locs cs ss Q (F0 m pc ls (.ref a :: rest)) := by
  obtain ⟨C, T, N, hc, hk, hw, -⟩ := gFL_ok hf
  obtain ⟨hin, hty, hnm⟩ := gcl_ok hc
  obtain ⟨r, h1, cell, q1, q2, q3, q4⟩ := hH.obj hsh
  have hr : r = (C, T, N) := Option.some.inj (h1.symm.trans hc)
  subst hr
  obtain ⟨hS, hfc, kC, hkC, hkind⟩ := B.2.2.2.2.2.2.1.1.1 x _ hc
  obtain ⟨cf, kf, fi, f, hi, hsl⟩ := hS k hk
  refine W.getf B.1 B.2.1 B.2.2.2.1 (B.2.2.2.2.1 _ hw) hi (u_facts hfc hkC (u_lays B.2.2.2.2.1 hin hk) hi).1 q1 (by rw [q3]; exact fun h => by cases h) (v := _) ?_ rfl rfl hd kk
  rw [hsl, q4 k hk]
theorem gg_put {a x k u ix : Nat} {v : Value} {G' : gS} (B : gB p s m args meth c cc nL o ini D base) (hH : gH D base G H) (hS0 : va_S (fun q : Nat => base ≤ q) s.heap H locs) (hsh : gsh G a = (1, x, 0)) (hf : gFL o ix = some (x, k, u)) (hu : u = 0 ∨ (u = 1 ∧ ini = true)) (hn : narrow (cty x k) v = v) (hfit : fits (cty x k) v = true)
    (hs : ∀ b, gsh G' b = gsh G b) (hz : gsz G' = gsz G) (hi : ∀ b, b ≠ a → ∀ k, gi G' b k = gi G b k) (hl : ∀ b, b ≠ a → ∀ k, gl G' b k = gl G b k) (hr : ∀ b, b ≠ a → ∀ k, gr G' b k = gr G b k)
    (hv : ∀ j, fval (cty x j) (gi G' a j) (gl G' a j) (gr G' a j) = updV (fun k => fval (cty x k) (gi G a k) (gl G a k) (gr G a k)) k v j)
    (hd : decode cc pc = .ok (.putfield ix, 3))
    (kk : ∀ (H1 : Heap) (locs1 : List Loc), gH D base G' H1 → va_S (fun q : Nat => base ≤ q) s.heap H1 locs1 → W p l e R s m args below meth c H1 locs1 cs ss Q (F0 m (pc + 3) ls rest)) : W p l e R s m args below meth c H locs cs ss Q (F0 m pc ls (v :: .ref a :: rest)) := by
  obtain ⟨C, T, N, hc, hk, hw, hu0, hu1⟩ := gFL_ok hf
  obtain ⟨hin, hty, hnm⟩ := gcl_ok hc
  have hK := B.2.2.2.2.2.2.1.1
  have hts := B.2.2.2.2.1
  have hap := va_apart (own := gown o) hts hin (cty x) hty hnm hK hc
  have haA : base ≤ a := (hH.2.2.2 a (by rw [hsh]; simp)).1
  obtain ⟨r, h1, cell, q1, q2, q3, q4⟩ := hH.obj hsh
  have hr' : r = (C, T, N) := Option.some.inj (h1.symm.trans hc)
  subst hr'
  obtain ⟨hS, hfc, kC, hkC, hkind⟩ := hK.1 x _ hc
  obtain ⟨cf, kf, fi, f, hfi, hsl⟩ := hS k hk
  have hlay := hts _ (hin _ (u_in_lay hk))
  have hst := (u_facts hfc hkC (u_lays hts hin hk) hfi).1
  have fin : ∀ H' : Heap, H'[a]? = some (cell.setSlot f.slot v) → H'.size = H.size → (∀ q, q ≠ a → H'[q]? = H[q]?) → W p l e R s m args below meth c H' (locs ++ [⟨a, f.slot⟩]) cs ss Q (F0 m (pc + 3) ls rest) := by
    intro H' e1 e2 e3
    rw [hsl] at e1 ⊢
    refine kk H' _ (hH.put hs hz hi hl hr e2 e3 ⟨fun _ => ?_, fun h2 => absurd h2 (by rw [hs, hsh]; simp)⟩) (hS0.put e2 e3 haA)
    rw [hs, hsh]
    exact ⟨_, hc, t_OB.to (V := updV (fun k => fval (cty x k) (gi G a k) (gl G a k) (gr G a k)) k v) ⟨_, e1, q2, q3, t_set q4 hap hk v⟩ (fun j _ => (hv j).symm)⟩
  rcases hu with hu | ⟨hu, hini⟩
  · unfold u_lay at hlay
    rw [if_neg (by rw [hu0 hu]; decide)] at hlay
    have h6 := u_store hfc hkC hkind hlay hfi (hty k hk) hn hfit
    exact W.putK B.1 B.2.1 (f := f) ⟨B.2.2.2.1, hts _ hw, ⟨_, _, _, hfi⟩, hst⟩ (by rw [q2]; exact h6) q1 q3 (by rw [hsl]; exact k2_hasslot (q4 k hk)) rfl rfl hd fin
  · obtain ⟨hfin, hdecl⟩ := hu1 hu
    unfold u_lay at hlay
    rw [if_pos hfin] at hlay
    have hcf : m.cls = cf := by
      obtain ⟨_, _, c', _, _, _, -, -, hf', -, -, -, hown2, -⟩ := Cond.laysFinal_spec hlay
      have e1 : c' = cf := by have := hfi.symm.trans hf'; simp at this; exact this.1.symm
      rw [hdecl] at hown2
      rw [← e1]; exact Option.some.inj (B.2.2.2.1.symm.trans hown2)
    have h6 := u_fits hfc hkC hkind (Or.inr hlay) hfi (hty k hk) hn hfit
    exact W.putFinK B.1 B.2.1 B.2.2.2.1 (hts _ hw) hfi hst hcf (B.2.2.2.2.2.2.2.2 hini) (by rw [q2]; exact h6) q1 q3 (by rw [hsl]; exact k2_hasslot (q4 k hk)) rfl rfl hd fin
end SND
