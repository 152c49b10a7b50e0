/-! ===== the class's cells that hold a run ===== -/
def chn (G : gS) (X pc : Nat) : List Nat → Int32 → Prop
  | [], v => v = -1
  | e :: r, v => ∃ q, q < pc ∧ v = nI q ∧ gi G (X + 149) q = nI e ∧ chn G X pc r (gi G (X + 150) q)
theorem chn.fr {G G' : gS} {X pc pc' : Nat} (hp : pc ≤ pc') (h1 : ∀ q, q < pc → gi G' (X + 149) q = gi G (X + 149) q) (h2 : ∀ q, q < pc → gi G' (X + 150) q = gi G (X + 150) q) : ∀ (r : List Nat) (v : Int32), chn G X pc r v → chn G' X pc' r v := by
  intro r
  induction r with
  | nil => intro v h; exact h
  | cons e r ih =>
    rintro v ⟨q, hq, hv, he, hr⟩
    exact ⟨q, by omega, hv, by rw [h1 q hq]; exact he, by rw [h2 q hq]; exact ih _ hr⟩
def RC (X a : Nat) (π : Nat → Nat) (L : List sA) (R : sR) (P : sP) (G : gS) : Prop := RS X R a π L G ∧ gr G (X + 144) 13 = some a ∧ gi G a 2 = P.1 ∧ gl G a 3 = P.2.1 ∧ gl G a 4 = P.2.2.1 ∧ (P.1 = 0 → gi G a 5 = P.2.2.2.1) ∧ (P.1 = 1 → gi G a 6 = P.2.2.2.1)
def RE (X a : Nat) (π : Nat → Nat) (T : sT) (G : gS) : Prop := (tF T = 0 → EA X a π (tE T) (tN T) G) ∧ gi G (X + 151) 8 = nI (tW T) ∧ gi G (X + 151) 9 = nI (tF T)
def RF (X : Nat) (P : sP) (T : sT) (G : gS) : Prop := gi G (X + 144) 1 = nI (tC T) ∧ gi G (X + 144) 2 = nI (tA T) ∧ gi G (X + 144) 16 = bz (tS T) ∧ gi G (X + 144) 14 = nI (tO T) ∧ (P.1 = 0 → gl G (X + 144) 15 = P.2.1 + lN (tO T) * P.2.2.1) ∧ gi G (X + 144) 12 = nI (tP T)
def RV (X : Nat) (T : sT) (G : gS) : Prop := ∀ k, k < 11 → gi G (X + 145) k = nI (tK T k) ∧ gi G (X + 146) k = bz (tB T k) ∧ gi G (X + 147) k = on1 (tQ T k) ∧ chn G X (tP T) (tL T k) (gi G (X + 148) k)
def RW (X a : Nat) (π : Nat → Nat) (L : List sA) (R : sR) (P : sP) (T : sT) (G : gS) : Prop := RC X a π L R P G ∧ RE X a π T G ∧ RF X P T G ∧ RV X T G
/-- only cells of the run have changed, not how many were got nor what came out -/
def rnF (X : Nat) (G G' : gS) : Prop := frm (runC X) G G' ∧ (∀ k, gr G' (X + 144) k = gr G (X + 144) k) ∧ (∀ k, gr G' (X + 151) k = gr G (X + 151) k) ∧ gi G' (X + 144) 3 = gi G (X + 144) 3 ∧ gl G' (X + 144) 4 = gl G (X + 144) 4
theorem rnF.rf {X : Nat} {G : gS} : rnF X G G := ⟨frm.rf, fun _ => rfl, fun _ => rfl, rfl, rfl⟩
theorem rnF.tr {X : Nat} {G G1 G2 : gS} (h : rnF X G G1) (h' : rnF X G1 G2) : rnF X G G2 := ⟨h.1.tr h'.1, fun k => (h'.2.1 k).trans (h.2.1 k), fun k => (h'.2.2.1 k).trans (h.2.2.1 k), h'.2.2.2.1.trans h.2.2.2.1, h'.2.2.2.2.trans h.2.2.2.2⟩
theorem RC.fr {X a : Nat} {π : Nat → Nat} {L : List sA} {R : sR} {P : sP} {G G' : gS} (h : RC X a π L R P G) (hf : rnF X G G') : RC X a π L R P G' := by
  obtain ⟨h1, h2, h3, h4, h5, h6, h7⟩ := h
  have ha : ¬ runC X a := by have := h1.2.2.2.2.2.2.2; unfold runC; omega
  exact ⟨h1.fr hf.1 (fun k _ => hf.2.1 k) hf.2.2.1, by rw [hf.2.1]; exact h2, by rw [hf.1.i ha]; exact h3, by rw [hf.1.l ha]; exact h4, by rw [hf.1.l ha]; exact h5, fun q => by rw [hf.1.i ha]; exact h6 q, fun q => by rw [hf.1.i ha]; exact h7 q⟩
/-- writes to the run's own fields -/
theorem rnF.f {X c : Nat} {G G1 : gS} {v : Int32} (h : rnF X G G1) (hc : c ≠ 3) : rnF X G (si G1 (X + 144) c v) := h.tr ⟨frm.rf.si ⟨by omega, by omega⟩, fun _ => rfl, fun _ => rfl, gi_kn (Ne.symm hc), rfl⟩
theorem rnF.fl {X c : Nat} {G G1 : gS} {v : Int64} (h : rnF X G G1) (hc : c ≠ 4) : rnF X G (sl G1 (X + 144) c v) := h.tr ⟨frm.rf.sl ⟨by omega, by omega⟩, fun _ => rfl, fun _ => rfl, rfl, gl_kn (Ne.symm hc)⟩
theorem rnF.i {X q k : Nat} {G G1 : gS} {v : Int32} (h : rnF X G G1) (h1 : X + 144 < q) (h2 : q < X + 158) : rnF X G (si G1 q k v) := h.tr ⟨frm.rf.si ⟨by omega, by omega⟩, fun _ => rfl, fun _ => rfl, gi_ne (by omega), rfl⟩
theorem rnF.l {X q k : Nat} {G G1 : gS} {v : Int64} (h : rnF X G G1) (h1 : X + 144 < q) (h2 : q < X + 158) : rnF X G (sl G1 q k v) := h.tr ⟨frm.rf.sl ⟨by omega, by omega⟩, fun _ => rfl, fun _ => rfl, rfl, gl_ne (by omega)⟩
theorem rnF.r {X k : Nat} {G G1 : gS} {v : Option Nat} (h : rnF X G G1) : rnF X G (sr G1 (X + 154) k v) := h.tr ⟨frm.rf.sr ⟨by omega, by omega⟩, fun _ => gr_ne (by omega), fun _ => gr_ne (by omega), rfl, rfl⟩
theorem rnF.ga {X n : Nat} {G G1 : gS} {st inp bef : Int32} {mk : Option Nat} (h : rnF X G G1) : rnF X G (gadd G1 X n st mk inp bef) := ((((h.i (by omega) (by omega)).r.i (by omega) (by omega)).i (by omega) (by omega)).i (by omega) (by omega))
theorem rnF.wk {X : Nat} {G G1 : gS} (h : wkG X G G1) : rnF X G G1 := ⟨h.1.mono (fun q hq => by unfold wkC at hq; exact ⟨by omega, by omega⟩), fun k => h.2.2 _ k, fun k => h.2.2 _ k, h.1.i (by unfold wkC; omega), h.1.l (by unfold wkC; omega)⟩
/-- RE stands while the elements' cells stand -/
theorem EA.fr {X a n : Nat} {π : Nat → Nat} {el : Nat → sE} {G G' : gS} (h : EA X a π el n G) (h7 : gi G' (X + 151) 7 = gi G (X + 151) 7) (hi : ∀ q k, X + 152 ≤ q → q < X + 157 → gi G' q k = gi G q k) (hl : ∀ k, gl G' (X + 153) k = gl G (X + 153) k) (hr : ∀ k, gr G' (X + 154) k = gr G (X + 154) k) : EA X a π el n G' := by
  obtain ⟨h1, h2, h3⟩ := h
  refine ⟨h1, by rw [h7]; exact h2, fun e he => ?_⟩
  obtain ⟨a1, a2, a3, a4, a5⟩ := h3 e he
  exact ⟨by rw [hi _ _ (by omega) (by omega)]; exact a1, a2, fun q => by rw [hl]; exact a3 q, fun q => by rw [hr, hi _ _ (by omega) (by omega)]; exact a4 q, fun q => by rw [hi _ _ (by omega) (by omega), hi _ _ (by omega) (by omega)]; exact a5 q⟩
theorem RE.fr {X a : Nat} {π : Nat → Nat} {T T' : sT} {G G' : gS} (h : RE X a π T G) (e1 : tE T' = tE T) (e2 : tN T' = tN T) (e3 : tW T' = tW T) (e4 : tF T' = tF T) (hi : ∀ q k, X + 151 ≤ q → q < X + 157 → gi G' q k = gi G q k) (hl : ∀ k, gl G' (X + 153) k = gl G (X + 153) k) (hr : ∀ k, gr G' (X + 154) k = gr G (X + 154) k) : RE X a π T' G' := by
  obtain ⟨h1, h2, h3⟩ := h
  refine ⟨fun q => ?_, by rw [hi _ _ (by omega) (by omega), e3]; exact h2, by rw [hi _ _ (by omega) (by omega), e4]; exact h3⟩
  rw [e1, e2]
  exact (h1 (by rw [← e4]; exact q)).fr (hi _ _ (by omega) (by omega)) (fun q k z1 z2 => hi q k (by omega) z2) hl hr
theorem RF.fr {X : Nat} {P : sP} {T T' : sT} {G G' : gS} (h : RF X P T G) (e1 : tC T' = tC T) (e2 : tA T' = tA T) (e3 : tS T' = tS T) (e4 : tO T' = tO T) (e5 : tP T' = tP T) (hi : ∀ k, gi G' (X + 144) k = gi G (X + 144) k) (hl : gl G' (X + 144) 15 = gl G (X + 144) 15) : RF X P T' G' := by
  obtain ⟨h1, h2, h3, h4, h5, h6⟩ := h
  exact ⟨by rw [hi, e1]; exact h1, by rw [hi, e2]; exact h2, by rw [hi, e3]; exact h3, by rw [hi, e4]; exact h4, fun q => by rw [hl, e4]; exact h5 q, by rw [hi, e5]; exact h6⟩
theorem RV.fr {X : Nat} {T T' : sT} {G G' : gS} (h : RV X T G) (e1 : tK T' = tK T) (e2 : tB T' = tB T) (e3 : tQ T' = tQ T) (e4 : tL T' = tL T) (e5 : tP T' = tP T) (hi : ∀ q k, X + 145 ≤ q → q < X + 151 → gi G' q k = gi G q k) : RV X T' G' := by
  intro k hk
  obtain ⟨a1, a2, a3, a4⟩ := h k hk
  rw [e1, e2, e3, e4, e5]
  refine ⟨by rw [hi _ _ (by omega) (by omega)]; exact a1, by rw [hi _ _ (by omega) (by omega)]; exact a2, by rw [hi _ _ (by omega) (by omega)]; exact a3, ?_⟩
  rw [hi _ _ (by omega) (by omega)]
  exact chn.fr (Nat.le_refl _) (fun q _ => hi _ _ (by omega) (by omega)) (fun q _ => hi _ _ (by omega) (by omega)) _ _ a4
section
variable {X a : Nat} {π : Nat → Nat} {L : List sA} {R : sR} {P : sP} {T : sT} {G : gS}
/-- a write to one of the run's own fields: RE and RV stand -/
theorem RW.f {T' : sT} {c : Nat} {v : Int32} (h : RW X a π L R P T G) (hc : c ≠ 3) (e1 : tE T' = tE T) (e2 : tN T' = tN T) (e3 : tW T' = tW T) (e4 : tF T' = tF T) (e5 : tK T' = tK T) (e6 : tB T' = tB T) (e7 : tQ T' = tQ T) (e8 : tL T' = tL T) (e9 : tP T' = tP T) (hF : RF X P T' (si G (X + 144) c v)) : RW X a π L R P T' (si G (X + 144) c v) :=
  ⟨h.1.fr (rnF.rf.f hc), h.2.1.fr e1 e2 e3 e4 (fun q k z1 z2 => gi_ne (by omega)) (fun _ => rfl) (fun _ => rfl), hF, h.2.2.2.fr e5 e6 e7 e8 e9 (fun q k z1 z2 => gi_ne (by omega))⟩
theorem RW.Ak (h : RW X a π L R P T G) : RW X a π L R P (sAk T) (si G (X + 144) 2 (nI (tA T + 1))) := by
  obtain ⟨h1, h2, h3, h4, h5, h6⟩ := h.2.2.1
  exact h.f (by decide) rfl rfl rfl rfl rfl rfl rfl rfl rfl ⟨by rw [gi_kn (by decide)]; exact h1, gi_eq, by rw [gi_kn (by decide)]; exact h3, by rw [gi_kn (by decide)]; exact h4, h5, by rw [gi_kn (by decide)]; exact h6⟩
theorem RW.Sp (h : RW X a π L R P T G) : RW X a π L R P (sSp T) (si G (X + 144) 16 1) := by
  obtain ⟨h1, h2, h3, h4, h5, h6⟩ := h.2.2.1
  exact h.f (by decide) rfl rfl rfl rfl rfl rfl rfl rfl rfl ⟨by rw [gi_kn (by decide)]; exact h1, by rw [gi_kn (by decide)]; exact h2, gi_eq, by rw [gi_kn (by decide)]; exact h4, h5, by rw [gi_kn (by decide)]; exact h6⟩
theorem RW.Cl (h : RW X a π L R P T G) : RW X a π L R P (sCl T) (si G (X + 144) 1 (nI (tC T + 1))) := by
  obtain ⟨h1, h2, h3, h4, h5, h6⟩ := h.2.2.1
  exact h.f (by decide) rfl rfl rfl rfl rfl rfl rfl rfl rfl ⟨gi_eq, by rw [gi_kn (by decide)]; exact h2, by rw [gi_kn (by decide)]; exact h3, by rw [gi_kn (by decide)]; exact h4, h5, by rw [gi_kn (by decide)]; exact h6⟩
theorem RW.O (h : RW X a π L R P T G) : RW X a π L R P (sO T) (si (sl G (X + 144) 15 (P.2.1 + lN (tO T + 1) * P.2.2.1)) (X + 144) 14 (nI (tO T + 1))) := by
  obtain ⟨h1, h2, h3, h4, h5, h6⟩ := h.2.2.1
  refine ⟨h.1.fr ((rnF.rf.fl (by decide)).f (by decide)), h.2.1.fr rfl rfl rfl rfl (fun q k z1 z2 => by rw [gi_ne (by omega), gi_sl]) (fun _ => by rw [gl_si, gl_ne (by omega)]) (fun _ => rfl), ⟨by rw [gi_kn (by decide), gi_sl]; exact h1, by rw [gi_kn (by decide), gi_sl]; exact h2, by rw [gi_kn (by decide), gi_sl]; exact h3, gi_eq, fun _ => by rw [gl_si, gl_eq]; rfl, by rw [gi_kn (by decide), gi_sl]; exact h6⟩, h.2.2.2.fr rfl rfl rfl rfl rfl (fun q k z1 z2 => by rw [gi_ne (by omega), gi_sl])⟩
theorem RW.Or (h : RW X a π L R P T G) (hP : P.1 ≠ 0) : RW X a π L R P (sO T) (si G (X + 144) 14 (nI (tO T + 1))) := by
  obtain ⟨h1, h2, h3, h4, h5, h6⟩ := h.2.2.1
  exact h.f (by decide) rfl rfl rfl rfl rfl rfl rfl rfl rfl ⟨by rw [gi_kn (by decide)]; exact h1, by rw [gi_kn (by decide)]; exact h2, by rw [gi_kn (by decide)]; exact h3, gi_eq, fun q => absurd q hP, by rw [gi_kn (by decide)]; exact h6⟩
theorem RW.Ft {f : Nat} (h : RW X a π L R P T G) (hf : f ≠ 0) : RW X a π L R P (sFt T f) (si G (X + 151) 9 (nI f)) :=
  ⟨h.1.fr (rnF.rf.i (by omega) (by omega)), ⟨fun q => absurd q hf, by rw [gi_kn (by decide)]; exact h.2.1.2.1, gi_eq⟩, h.2.2.1.fr rfl rfl rfl rfl rfl (fun k => gi_ne (by omega)) rfl, h.2.2.2.fr rfl rfl rfl rfl rfl (fun q k z1 z2 => gi_ne (by omega))⟩
/-- a write to a row by levels -/
theorem RW.lv {T' : sT} {q k : Nat} {v : Int32} (h : RW X a π L R P T G) (hq1 : X + 145 ≤ q) (hq2 : q < X + 149) (e1 : tE T' = tE T) (e2 : tN T' = tN T) (e3 : tW T' = tW T) (e4 : tF T' = tF T) (e5 : tC T' = tC T) (e6 : tA T' = tA T) (e7 : tS T' = tS T) (e8 : tO T' = tO T) (e9 : tP T' = tP T) (hL : RV X T' (si G q k v)) : RW X a π L R P T' (si G q k v) :=
  ⟨h.1.fr (rnF.rf.i (by omega) (by omega)), h.2.1.fr e1 e2 e3 e4 (fun q k z1 z2 => gi_ne (by omega)) (fun _ => rfl) (fun _ => rfl), h.2.2.1.fr e5 e6 e7 e8 e9 (fun k => gi_ne (by omega)) rfl, hL⟩
theorem va_s {α : Type} {f : Nat → α} {k : Nat} {x : α} : va_up f k x k = x := if_pos rfl
theorem va_n {α : Type} {f : Nat → α} {k i : Nat} {x : α} (h : i ≠ k) : va_up f k x i = f i := if_neg h
theorem RW.K {k : Nat} (h : RW X a π L R P T G) : RW X a π L R P (sK T k) (si G (X + 145) k (nI (tK T k + 1))) := by
  refine h.lv (by omega) (by omega) rfl rfl rfl rfl rfl rfl rfl rfl rfl (fun i hi => ?_)
  obtain ⟨a1, a2, a3, a4⟩ := h.2.2.2 i hi
  refine ⟨?_, by rw [gi_ne (by omega)]; exact a2, by rw [gi_ne (by omega)]; exact a3, by rw [gi_ne (by omega)]; exact chn.fr (Nat.le_refl _) (fun q _ => gi_ne (by omega)) (fun q _ => gi_ne (by omega)) _ _ a4⟩
  rw [tK_sK]
  by_cases hk : i = k
  · subst hk; rw [gi_eq, va_s]
  · rw [gi_kn hk, va_n hk]; exact a1
theorem RW.B {k : Nat} (h : RW X a π L R P T G) : RW X a π L R P (sB T k) (si G (X + 146) k 1) := by
  refine h.lv (by omega) (by omega) rfl rfl rfl rfl rfl rfl rfl rfl rfl (fun i hi => ?_)
  obtain ⟨a1, a2, a3, a4⟩ := h.2.2.2 i hi
  refine ⟨by rw [gi_ne (by omega)]; exact a1, ?_, by rw [gi_ne (by omega)]; exact a3, by rw [gi_ne (by omega)]; exact chn.fr (Nat.le_refl _) (fun q _ => gi_ne (by omega)) (fun q _ => gi_ne (by omega)) _ _ a4⟩
  rw [tB_sB]
  by_cases hk : i = k
  · subst hk; rw [gi_eq, va_s]; rfl
  · rw [gi_kn hk, va_n hk]; exact a2
theorem RW.Q {k e : Nat} (h : RW X a π L R P T G) : RW X a π L R P (sQ T k e) (si G (X + 147) k (nI e)) := by
  refine h.lv (by omega) (by omega) rfl rfl rfl rfl rfl rfl rfl rfl rfl (fun i hi => ?_)
  obtain ⟨a1, a2, a3, a4⟩ := h.2.2.2 i hi
  refine ⟨by rw [gi_ne (by omega)]; exact a1, by rw [gi_ne (by omega)]; exact a2, ?_, by rw [gi_ne (by omega)]; exact chn.fr (Nat.le_refl _) (fun q _ => gi_ne (by omega)) (fun q _ => gi_ne (by omega)) _ _ a4⟩
  rw [tQ_sQ]
  by_cases hk : i = k
  · subst hk; rw [gi_eq, va_s]; rfl
  · rw [gi_kn hk, va_n hk]; exact a3
theorem RW.Pop {k : Nat} {r : List Nat} {v : Int32} (h : RW X a π L R P T G) (hv : chn G X (tP T) r v) : RW X a π L R P (sPop T k r) (si G (X + 148) k v) := by
  refine h.lv (by omega) (by omega) rfl rfl rfl rfl rfl rfl rfl rfl rfl (fun i hi => ?_)
  obtain ⟨a1, a2, a3, a4⟩ := h.2.2.2 i hi
  refine ⟨by rw [gi_ne (by omega)]; exact a1, by rw [gi_ne (by omega)]; exact a2, by rw [gi_ne (by omega)]; exact a3, ?_⟩
  refine chn.fr (G := G) (Nat.le_refl _) (fun q _ => gi_ne (by omega)) (fun q _ => gi_ne (by omega)) _ _ ?_
  rw [tL_sPop]
  by_cases hk : i = k
  · subst hk; rw [gi_eq, va_s]; exact hv
  · rw [gi_kn hk, va_n hk]; exact a4
theorem RW.Push {k e : Nat} (h : RW X a π L R P T G) (hk11 : k < 11) : RW X a π L R P (sPush T k e) (si (si (si (si (si G (X + 144) 1 (nI (tC T + 1))) (X + 149) (tP T) (nI e)) (X + 150) (tP T) (gi G (X + 148) k)) (X + 148) k (nI (tP T))) (X + 144) 12 (nI (tP T + 1))) := by
  obtain ⟨h1, h2, h3, h4, h5, h6⟩ := h.2.2.1
  refine ⟨h.1.fr (((((rnF.rf.f (by decide)).i (by omega) (by omega)).i (by omega) (by omega)).i (by omega) (by omega)).f (by decide)), h.2.1.fr rfl rfl rfl rfl (fun q k z1 z2 => by rw [gi_ne (by omega), gi_ne (by omega), gi_ne (by omega), gi_ne (by omega), gi_ne (by omega)]) (fun _ => rfl) (fun _ => rfl), ⟨?_, ?_, ?_, ?_, h5, gi_eq⟩, fun i hi => ?_⟩
  · rw [gi_kn (by decide), gi_ne (by omega), gi_ne (by omega), gi_ne (by omega), gi_eq]; rfl
  · rw [gi_kn (by decide), gi_ne (by omega), gi_ne (by omega), gi_ne (by omega), gi_kn (by decide)]; exact h2
  · rw [gi_kn (by decide), gi_ne (by omega), gi_ne (by omega), gi_ne (by omega), gi_kn (by decide)]; exact h3
  · rw [gi_kn (by decide), gi_ne (by omega), gi_ne (by omega), gi_ne (by omega), gi_kn (by decide)]; exact h4
  · obtain ⟨a1, a2, a3, a4⟩ := h.2.2.2 i hi
    refine ⟨by rw [gi_ne (by omega), gi_ne (by omega), gi_ne (by omega), gi_ne (by omega), gi_ne (by omega)]; exact a1, by rw [gi_ne (by omega), gi_ne (by omega), gi_ne (by omega), gi_ne (by omega), gi_ne (by omega)]; exact a2, by rw [gi_ne (by omega), gi_ne (by omega), gi_ne (by omega), gi_ne (by omega), gi_ne (by omega)]; exact a3, ?_⟩
    have c1 : ∀ q, q < tP T → gi (si (si (si (si (si G (X + 144) 1 (nI (tC T + 1))) (X + 149) (tP T) (nI e)) (X + 150) (tP T) (gi G (X + 148) k)) (X + 148) k (nI (tP T))) (X + 144) 12 (nI (tP T + 1))) (X + 149) q = gi G (X + 149) q := fun q hq => by rw [gi_ne (by omega), gi_ne (by omega), gi_ne (by omega), gi_kn (by omega), gi_ne (by omega)]
    have c2 : ∀ q, q < tP T → gi (si (si (si (si (si G (X + 144) 1 (nI (tC T + 1))) (X + 149) (tP T) (nI e)) (X + 150) (tP T) (gi G (X + 148) k)) (X + 148) k (nI (tP T))) (X + 144) 12 (nI (tP T + 1))) (X + 150) q = gi G (X + 150) q := fun q hq => by rw [gi_ne (by omega), gi_ne (by omega), gi_kn (by omega), gi_ne (by omega), gi_ne (by omega)]
    rw [tL_sPush, tP_sPush]
    by_cases hk : i = k
    · subst hk
      rw [va_s, gi_ne (by omega), gi_eq]
      refine ⟨tP T, Nat.lt_succ_self _, rfl, by rw [gi_ne (by omega), gi_ne (by omega), gi_ne (by omega), gi_eq], ?_⟩
      rw [show gi (si (si (si (si (si G (X + 144) 1 (nI (tC T + 1))) (X + 149) (tP T) (nI e)) (X + 150) (tP T) (gi G (X + 148) i)) (X + 148) i (nI (tP T))) (X + 144) 12 (nI (tP T + 1))) (X + 150) (tP T) = gi G (X + 148) i from by rw [gi_ne (by omega), gi_ne (by omega), gi_eq]]
      exact chn.fr (Nat.le_succ _) c1 c2 _ _ a4
    · rw [va_n hk, gi_ne (by omega), gi_kn hk, gi_ne (by omega), gi_ne (by omega), gi_ne (by omega)]
      exact chn.fr (Nat.le_succ _) c1 c2 _ _ a4
theorem EA.ad {n : Nat} {el : Nat → sE} {x : sE} {st inp bef : Int32} {mk : Option Nat} (h : EA X a π el n G) (hn : n < 400) (hx : x.1 ≤ 3) (h1 : st = nI x.1) (h2 : x.1 = 0 → gl G (X + 153) n = x.2.1) (h3 : x.1 = 1 → mk = some (a + 2 + 3 * π x.2.2.1) ∧ inp = nI x.2.2.2.1) (h4 : 2 ≤ x.1 → inp = nI x.2.2.2.1 ∧ bef = on1 x.2.2.2.2) : EA X a π (va_up el n x) (n + 1) (gadd G X n st mk inp bef) := by
  obtain ⟨b1, b2, b3⟩ := h
  have g7 : gi (gadd G X n st mk inp bef) (X + 151) 7 = nI (n + 1) := gi_eq
  have g153 : ∀ k, gl (gadd G X n st mk inp bef) (X + 153) k = gl G (X + 153) k := fun k => rfl
  refine ⟨hn, g7, fun e he => ?_⟩
  rw [g153]
  unfold gadd
  by_cases hk : e = n
  · subst hk
    rw [va_s]
    refine ⟨by rw [gi_ne (by omega), gi_ne (by omega), gi_ne (by omega), gi_sr, gi_eq]; exact h1, hx, h2, fun q => ?_, fun q => ?_⟩
    · rw [gr_si, gr_si, gr_si, gr_eq, gi_ne (by omega), gi_ne (by omega), gi_eq]; exact h3 q
    · rw [gi_ne (by omega), gi_ne (by omega), gi_eq, gi_ne (by omega), gi_eq]; exact h4 q
  · obtain ⟨a1, a2, a3, a4, a5⟩ := b3 e (by omega)
    rw [va_n hk]
    refine ⟨by rw [gi_ne (by omega), gi_ne (by omega), gi_ne (by omega), gi_sr, gi_kn hk]; exact a1, a2, a3, fun q => ?_, fun q => ?_⟩
    · rw [gr_si, gr_si, gr_si, gr_kn hk, gr_si, gi_ne (by omega), gi_ne (by omega), gi_kn hk, gi_sr, gi_ne (by omega)]; exact a4 q
    · rw [gi_ne (by omega), gi_ne (by omega), gi_kn hk, gi_sr, gi_ne (by omega), gi_ne (by omega), gi_kn hk, gi_ne (by omega), gi_sr, gi_ne (by omega)]; exact a5 q
theorem EA.v {n : Nat} {el : Nat → sE} {v : Int64} (h : EA X a π el n G) : EA X a π el n (sl G (X + 153) n v) := by
  obtain ⟨b1, b2, b3⟩ := h
  refine ⟨b1, b2, fun e he => ?_⟩
  obtain ⟨a1, a2, a3, a4, a5⟩ := b3 e he
  exact ⟨a1, a2, fun q => by rw [gl_kn (by omega)]; exact a3 q, a4, a5⟩
/-- one more element -/
theorem RW.Ad {x : sE} {st inp bef : Int32} {mk : Option Nat} (h : RW X a π L R P T G) (hf : tF T = 0) (hn : tN T < 400) (hx : x.1 ≤ 3) (h1 : st = nI x.1) (h2 : x.1 = 0 → gl G (X + 153) (tN T) = x.2.1) (h3 : x.1 = 1 → mk = some (a + 2 + 3 * π x.2.2.1) ∧ inp = nI x.2.2.2.1) (h4 : 2 ≤ x.1 → inp = nI x.2.2.2.1 ∧ bef = on1 x.2.2.2.2) : RW X a π L R P (sAd T x) (gadd G X (tN T) st mk inp bef) := by
  have hg : ∀ q k, (q < X + 151 ∨ (q = X + 151 ∧ k ≠ 7)) → gi (gadd G X (tN T) st mk inp bef) q k = gi G q k := by
    intro q k hq
    unfold gadd
    by_cases h7 : q = X + 151
    · subst h7; rw [gi_kn (by omega), gi_ne (by omega), gi_ne (by omega), gi_sr, gi_ne (by omega)]
    · rw [gi_ne h7, gi_ne (by omega), gi_ne (by omega), gi_sr, gi_ne (by omega)]
  refine ⟨h.1.fr rnF.rf.ga, ⟨fun _ => (h.2.1.1 hf).ad hn hx h1 h2 h3 h4, by rw [hg _ _ (Or.inr ⟨rfl, by decide⟩)]; exact h.2.1.2.1, by rw [hg _ _ (Or.inr ⟨rfl, by decide⟩)]; exact h.2.1.2.2⟩, h.2.2.1.fr rfl rfl rfl rfl rfl (fun k => hg _ _ (Or.inl (by omega))) rfl, h.2.2.2.fr rfl rfl rfl rfl rfl (fun q k z1 z2 => hg _ _ (Or.inl (by omega)))⟩
theorem RW.v {v : Int64} (h : RW X a π L R P T G) : RW X a π L R P T (sl G (X + 153) (tN T) v) :=
  ⟨h.1.fr (rnF.rf.l (by omega) (by omega)), ⟨fun q => (h.2.1.1 q).v, h.2.1.2⟩, h.2.2.1.fr rfl rfl rfl rfl rfl (fun k => rfl) (gl_ne (by omega)), h.2.2.2.fr rfl rfl rfl rfl rfl (fun q k z1 z2 => rfl)⟩
theorem RW.wkk {e : Nat} {G' : gS} (h : RW X a π L R P T G) (hg : wkG X G G') (h1 : gi G' (X + 151) 8 = nI (wk R L 401 e (tE T, tW T, 0)).2.1) (h2 : gi G' (X + 151) 9 = nI (wk R L 401 e (tE T, tW T, 0)).2.2) (h3 : (wk R L 401 e (tE T, tW T, 0)).2.2 = 0 → EA X a π (wk R L 401 e (tE T, tW T, 0)).1 (tN T) G') : RW X a π L R P (wkT R L e T) G' := by
  unfold wkT
  generalize wk R L 401 e (tE T, tW T, 0) = r at *
  exact ⟨h.1.fr (rnF.wk hg), ⟨h3, h1, h2⟩, h.2.2.1.fr rfl rfl rfl rfl rfl (fun k => hg.1.i (by unfold wkC; omega)) (hg.1.l (by unfold wkC; omega)), h.2.2.2.fr rfl rfl rfl rfl rfl (fun q k z1 z2 => hg.1.i (by unfold wkC; omega))⟩
end
