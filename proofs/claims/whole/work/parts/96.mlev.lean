/-! ===== asking: what the levels above keep ===== -/
def frT (k : Nat) (T T' : sT) : Prop := ∀ v, k < v → tK T' v = tK T v ∧ tB T' v = tB T v ∧ tQ T' v = tQ T v ∧ tL T' v = tL T v
def lP (T : sT) : Prop := ∀ v, (tL T v).length ≤ tP T
def kp (k : Nat) (T T' : sT) : Prop := frT k T T' ∧ (lP T → lP T')
theorem kp.rf {k : Nat} {T : sT} : kp k T T := ⟨fun _ _ => ⟨rfl, rfl, rfl, rfl⟩, id⟩
theorem kp.tr {k : Nat} {T T1 T2 : sT} (h : kp k T T1) (h' : kp k T1 T2) : kp k T T2 := ⟨fun v hv => ⟨(h'.1 v hv).1.trans (h.1 v hv).1, (h'.1 v hv).2.1.trans (h.1 v hv).2.1, (h'.1 v hv).2.2.1.trans (h.1 v hv).2.2.1, (h'.1 v hv).2.2.2.trans (h.1 v hv).2.2.2⟩, fun q => h'.2 (h.2 q)⟩
theorem kp.s {k : Nat} {T T' : sT} (h : kp k T T') : kp (k + 1) T T' := ⟨fun v hv => h.1 v (by omega), h.2⟩
theorem kp.sm {k : Nat} {T T1 T' : sT} (h : kp k T T1) (h1 : tK T' = tK T1) (h2 : tB T' = tB T1) (h3 : tQ T' = tQ T1) (h4 : tL T' = tL T1) (h5 : tP T' = tP T1) : kp k T T' := h.tr ⟨fun v _ => ⟨by rw [h1], by rw [h2], by rw [h3], by rw [h4]⟩, fun q v => by rw [h4, h5]; exact q v⟩
theorem kp.K {k v : Nat} {T T1 : sT} (h : kp k T T1) (hv : v ≤ k) : kp k T (sK T1 v) := h.tr ⟨fun w hw => ⟨by rw [tK_sK]; exact va_n (by omega), rfl, rfl, rfl⟩, fun q => q⟩
theorem kp.B {k v : Nat} {T T1 : sT} (h : kp k T T1) (hv : v ≤ k) : kp k T (sB T1 v) := h.tr ⟨fun w hw => ⟨rfl, by rw [tB_sB]; exact va_n (by omega), rfl, rfl⟩, fun q => q⟩
theorem kp.Q {k v e : Nat} {T T1 : sT} (h : kp k T T1) (hv : v ≤ k) : kp k T (sQ T1 v e) := h.tr ⟨fun w hw => ⟨rfl, rfl, by rw [tQ_sQ]; exact va_n (by omega), rfl⟩, fun q => q⟩
theorem kp.P {k v e : Nat} {T T1 : sT} (h : kp k T T1) (hv : v ≤ k) : kp k T (sPush T1 v e) := by
  refine h.tr ⟨fun w hw => ⟨rfl, rfl, rfl, by rw [tL_sPush]; exact va_n (by omega)⟩, fun q w => ?_⟩
  rw [tL_sPush, tP_sPush]
  by_cases hw : w = v
  · subst hw; rw [va_s]; exact Nat.succ_le_succ (q w)
  · rw [va_n hw]; exact Nat.le_succ_of_le (q w)
theorem kp.O {k v e : Nat} {r : List Nat} {T T1 : sT} (h : kp k T T1) (hv : v ≤ k) (hr : tL T1 v = e :: r) : kp k T (sPop T1 v r) := by
  refine h.tr ⟨fun w hw => ⟨rfl, rfl, rfl, by rw [tL_sPop]; exact va_n (by omega)⟩, fun q w => ?_⟩
  rw [tL_sPop, tP_sPop]
  by_cases hw : w = v
  · subst hw
    rw [va_s]
    have := q w
    rw [hr] at this
    exact Nat.le_of_succ_le this
  · rw [va_n hw]; exact q w
theorem kp_wk {k e : Nat} {R : sR} {L : List sA} {T T1 : sT} (h : kp k T T1) : kp k T (wkT R L e T1) := h.sm rfl rfl rfl rfl rfl
theorem kp_cel {k : Nat} {T : sT} {r : sT × Option Nat} (h : kp k T r.1) : kp k T (celP r).1 := by
  unfold celP
  split
  · exact h
  · exact h.sm rfl rfl rfl rfl rfl
theorem kp_tst {k : Nat} {R : sR} {L : List sA} {A : sA} {f : sF} (hf : ∀ T, kp k T (f T).1) : ∀ (n : Nat) (T : sT), kp k T (tstP R L A f n T).1 := by
  intro n
  induction n with
  | zero => intro T; exact kp.rf
  | succ n ih =>
    intro T
    unfold tstP
    split
    · exact hf T
    · split
      · exact kp_wk (hf T)
      · split
        · exact kp_wk (hf T)
        · exact (kp_wk (hf T)).tr (ih _)
theorem kp_skL {k : Nat} {x : Int64} {f : sF} (hf : ∀ T, kp k T (f T).1) : ∀ (m n : Nat) (T : sT), kp k T (skL x f m n T).1 := by
  intro m
  induction m with
  | zero => intro n T; exact kp.rf
  | succ m ih =>
    intro n T
    unfold skL
    split
    · split
      · exact hf T
      · exact (hf T).tr (ih _ _)
    · exact kp.rf
theorem kp_pil {k v : Nat} {f : sF} (hv : v ≤ k) (hf : ∀ T, kp k T (f T).1) : ∀ (n : Nat) (T : sT), kp k T (pilP v f n T) := by
  intro n
  induction n with
  | zero => intro T; exact kp.rf
  | succ n ih =>
    intro T
    unfold pilP
    split
    · exact hf T
    · exact ((hf T).P hv).tr (ih _)
theorem kp_pop {k v : Nat} {T T1 : sT} (h : kp k T T1) (hv : v ≤ k) : kp k T (popP v T1).1 := by
  unfold popP
  split
  · exact h
  · rename_i e r hl
    refine h.O hv (e := e) ?_
    by_cases ho : tOv T1
    · rw [if_pos ho] at hl; cases hl
    · rw [if_neg ho] at hl; exact hl
theorem kp_act {k : Nat} {R : sR} {L : List sA} {A : sA} {f : sF} (hf : ∀ T, kp k T (f T).1) (T : sT) : kp (k + 1) T (actP R L k A f T).1 := by
  have hf' : ∀ T, kp (k + 1) T (f T).1 := fun T => (hf T).s
  unfold actP
  split
  · refine kp_cel ?_
    unfold mapP
    split
    · exact hf' T
    · exact (hf' T).sm rfl rfl rfl rfl rfl
  split
  · exact kp_cel (kp_tst hf' _ _)
  split
  · refine kp_cel ?_
    unfold takP
    split
    · exact kp.rf
    · exact (kp.rf.K (Nat.le_refl _)).tr (hf' _)
  split
  · unfold skpP
    split
    · exact hf' T
    · split
      · exact ((kp.rf.B (Nat.le_refl _)).tr (kp_skL hf' _ _ _)).tr (hf' _)
      · exact (kp.rf.B (Nat.le_refl _)).tr (kp_skL hf' _ _ _)
  split
  · refine kp_cel ?_
    unfold whlP
    split
    · exact hf' T
    · split
      · exact kp_wk (hf' T)
      · split
        · exact kp_wk (hf' T)
        · exact kp_wk (hf' T)
  split
  · refine kp_cel ?_
    unfold sumP
    split
    · exact hf' T
    · exact ((hf' T).sm (T' := sAd (f T).1 (2, 0, k, _, tQ (f T).1 (k + 1))) rfl rfl rfl rfl rfl).Q (Nat.le_refl _)
  · refine kp_cel ?_
    unfold trnP
    split
    · exact kp_pop kp.rf (Nat.le_refl _)
    · exact kp_pop ((kp.rf.B (Nat.le_refl _)).tr (kp_pil (Nat.le_refl _) hf' _ _)) (Nat.le_refl _)
theorem kp_ent {k : Nat} {g : sF} (h : ∀ T, kp k T (g T).1) (T : sT) : kp k T (entP g T).1 := by
  unfold entP
  by_cases ho : tOv T
  · rw [if_pos ho]; exact kp.rf
  · rw [if_neg ho]
    split
    · exact kp.rf.sm rfl rfl rfl rfl rfl
    · exact (kp.rf.sm (T' := sAk T) rfl rfl rfl rfl rfl).tr (h _)
theorem kp_ask {R : sR} {L : List sA} {P : sP} : ∀ (k : Nat) (T : sT), kp k T (askP R L P k T).1 := by
  intro k
  induction k with
  | zero =>
    refine kp_ent (fun T => ?_)
    unfold srcP
    repeat' split
    all_goals first | exact kp.rf | exact kp.rf.sm rfl rfl rfl rfl rfl
  | succ k ih => exact kp_ent (fun T => kp_act ih T)
/-! ===== the levels, as the reference holds them ===== -/
def lvr (M : Nat) (A : sA) (v : Nat) (T : sT) (G : gS) : Prop := (kd A = 7 → gi G (M + 20) v = nI (tK T v) ∧ lN (tK T v) ≤ nu A) ∧ (kd A = 8 → (tB T v = false → gi G (M + 20) v = nI 0) ∧ (tB T v = true → ∃ g, gi G (M + 20) v = nI g ∧ nu A ≤ lN g ∧ g ≤ tA T)) ∧ (kd A = 10 → gi G (M + 21) v = on1 (tQ T v)) ∧ (kd A = 11 → gi G (M + 22) v = bz (tB T v) ∧ gi G (M + 23) v = nI (tL T v).length ∧ ∀ t e, (tL T v)[t]? = some e → gi G (M + 24) (500 * v + ((tL T v).length - 1 - t)) = nI e)
def opn (M : Nat) (L : List sA) (T : sT) (G : gS) : Nat → Prop
  | 0 => True
  | v + 1 => lvr M (L.getD v []) (v + 1) T G ∧ ((kd (L.getD v []) = 11 ∧ tB T (v + 1) = true) ∨ (gi G (M + 19) (v + 1) = 0 ∧ opn M L T G v))
theorem lvr.fr {M v : Nat} {A : sA} {T T' : sT} {G G' : gS} (h : lvr M A v T G) (hl : (tL T v).length ≤ 400) (h1 : tK T' v = tK T v) (h2 : tB T' v = tB T v) (h3 : tQ T' v = tQ T v) (h4 : tL T' v = tL T v) (hA : tA T ≤ tA T') (hv : lvC M v G G') : lvr M A v T' G' := by
  obtain ⟨a1, a2, a3, a4⟩ := h
  obtain ⟨c1, c2, c3, c4, c5, c6⟩ := hv
  unfold lvr
  rw [h1, h2, h3, h4, c2, c3, c4, c5]
  refine ⟨a1, fun q => ⟨(a2 q).1, fun q2 => ?_⟩, a3, fun q => ⟨(a4 q).1, (a4 q).2.1, fun t e he => ?_⟩⟩
  · obtain ⟨g, g1, g2, g3⟩ := (a2 q).2 q2
    exact ⟨g, g1, g2, by omega⟩
  · rw [c6 _ (by omega)]
    exact (a4 q).2.2 t e he
theorem opn.fr {M : Nat} {L : List sA} {T T' : sT} {G G' : gS} : ∀ {k : Nat}, opn M L T G k → (∀ v, (tL T v).length ≤ 400) → (∀ v, 1 ≤ v → v ≤ k → tK T' v = tK T v ∧ tB T' v = tB T v ∧ tQ T' v = tQ T v ∧ tL T' v = tL T v) → tA T ≤ tA T' → (∀ v, 1 ≤ v → v ≤ k → lvC M v G G') → opn M L T' G' k := by
  intro k
  induction k with
  | zero => intro _ _ _ _ _; trivial
  | succ k ih =>
    intro h hl hT hA hv
    obtain ⟨b1, b2, b3, b4⟩ := hT (k + 1) (by omega) (Nat.le_refl _)
    refine ⟨h.1.fr (hl _) b1 b2 b3 b4 hA (hv (k + 1) (by omega) (Nat.le_refl _)), ?_⟩
    rcases h.2 with ⟨q1, q2⟩ | ⟨q1, q2⟩
    · exact Or.inl ⟨q1, by rw [b2]; exact q2⟩
    · exact Or.inr ⟨by rw [(hv (k + 1) (by omega) (Nat.le_refl _)).1]; exact q1, ih q2 hl (fun v z1 z2 => hT v z1 (by omega)) hA (fun v z1 z2 => hv v z1 (by omega))⟩
section
variable {M j : Nat} {R : sR} {L : List sA} {P : sP} {T : sT} {G : gS}
theorem RM.eq {T' : sT} (h : RM M j R L P T G) (h1 : tE T' = tE T) (h2 : tN T' = tN T) (h3 : tW T' = tW T) (h4 : tC T' = tC T) (h5 : tA T' = tA T) (h6 : tF T' = tF T) (h7 : tS T' = tS T) (h8 : tO T' = tO T) : RM M j R L P T' G := by
  unfold RM cM at h ⊢
  rw [h1, h2, h3, h4, h5, h6, h7, h8]
  exact h
theorem RM.a (h : RM M j R L P T G) : RM M j R L P (sAk T) (si G M 22 (nI (tA T + 1))) := by
  obtain ⟨h1, ⟨c1, c2, c3, c4, c5⟩, h3, h4⟩ := h
  exact ⟨(rF.rf.f (by decide)).MS h1, ⟨by rw [gi_kn (by decide)]; exact c1, by rw [gi_kn (by decide)]; exact c2, gi_eq, by rw [gi_kn (by decide)]; exact c4, by rw [gi_kn (by decide)]; exact c5⟩, ⟨h3.1, by rw [gi_kn (by decide)]; exact h3.2.1, fun y hy => (h3.2.2 y hy).fr (esm.rf.o (Or.inl rfl))⟩, by rw [gi_ne (by omega)]; exact h4⟩
theorem RM.m {v : Int32} (h : RM M j R L P T G) : RM M j R L P T (si G M 32 v) := by
  obtain ⟨h1, ⟨c1, c2, c3, c4, c5⟩, h3, h4⟩ := h
  exact ⟨(rF.rf.f (by decide)).MS h1, ⟨by rw [gi_kn (by decide)]; exact c1, by rw [gi_kn (by decide)]; exact c2, by rw [gi_kn (by decide)]; exact c3, by rw [gi_kn (by decide)]; exact c4, by rw [gi_kn (by decide)]; exact c5⟩, ⟨h3.1, by rw [gi_kn (by decide)]; exact h3.2.1, fun y hy => (h3.2.2 y hy).fr (esm.rf.o (Or.inl rfl))⟩, by rw [gi_ne (by omega)]; exact h4⟩
theorem RM.c {T' : sT} (h : RM M j R L P T G) (h1 : tE T' = tE T) (h2 : tN T' = tN T) (h3 : tW T' = tW T) (h5 : tA T' = tA T) (h6 : tF T' = tF T) (h7 : tS T' = tS T) (h8 : tO T' = tO T) : RM M j R L P T' (si G M 21 (nI (tC T'))) := by
  obtain ⟨a1, ⟨c1, c2, c3, c4, c5⟩, a3, a4⟩ := h
  unfold RM cM
  rw [h1, h2, h3, h5, h6, h7, h8]
  exact ⟨(rF.rf.f (by decide)).MS a1, ⟨by rw [gi_kn (by decide)]; exact c1, gi_eq, by rw [gi_kn (by decide)]; exact c3, by rw [gi_kn (by decide)]; exact c4, by rw [gi_kn (by decide)]; exact c5⟩, ⟨a3.1, by rw [gi_kn (by decide)]; exact a3.2.1, fun y hy => (a3.2.2 y hy).fr (esm.rf.o (Or.inl rfl))⟩, by rw [gi_ne (by omega)]; exact a4⟩
theorem RM.v {q k : Nat} {x : Int32} (h : RM M j R L P T G) (hq : M + 19 ≤ q) (hq2 : q ≤ M + 24) (h0 : q = M + 20 → 1 ≤ k) : RM M j R L P T (si G q k x) := by
  obtain ⟨h1, ⟨c1, c2, c3, c4, c5⟩, h3, h4⟩ := h
  refine ⟨(rF.rf.i (by omega) hq2).MS h1, ⟨by rw [gi_ne (by omega)]; exact c1, by rw [gi_ne (by omega)]; exact c2, by rw [gi_ne (by omega)]; exact c3, by rw [gi_ne (by omega)]; exact c4, by rw [gi_ne (by omega)]; exact c5⟩, ⟨h3.1, by rw [gi_ne (by omega)]; exact h3.2.1, fun y hy => (h3.2.2 y hy).fr (esm.rf.o (Or.inr (Or.inr hq)))⟩, ?_⟩
  rw [gi_si, if_neg (fun e => by have := h0 e.1.symm; omega)]
  exact h4
theorem RM.ad {x : sE} {f bf ac : Int32} (h : RM M j R L P T G) (hn : tN T < 400) (hx : ec M j L x (tN T) (nwE M (tN T) f bf ac G)) : RM M j R L P (sAd T x) (nwE M (tN T) f bf ac G) := by
  obtain ⟨h1, ⟨c1, c2, c3, c4, c5⟩, h3, h4⟩ := h
  exact ⟨(nw_r rF.rf).MS h1, ⟨by rw [nw_m (by decide)]; exact c1, by rw [nw_m (by decide)]; exact c2, by rw [nw_m (by decide)]; exact c3, by rw [nw_m (by decide)]; exact c4, by rw [nw_m (by decide)]; exact c5⟩, h3.ad hn nw_12 (fun y hy => nw_s hy) hx, by rw [nw_i (by omega) (by omega)]; exact h4⟩
end
