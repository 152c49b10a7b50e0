/-! ===== asking: the states that come out, one by one ===== -/
def sameL (k : Nat) (T X : sT) : Prop := (∀ v, v ≤ k → tK X v = tK T v ∧ tB X v = tB T v ∧ tQ X v = tQ T v ∧ tL X v = tL T v) ∧ tA T ≤ tA X
theorem sameL.tr {k : Nat} {T X Y : sT} (h : sameL k T X) (h' : sameL k X Y) : sameL k T Y := ⟨fun v hv => ⟨(h'.1 v hv).1.trans (h.1 v hv).1, (h'.1 v hv).2.1.trans (h.1 v hv).2.1, (h'.1 v hv).2.2.1.trans (h.1 v hv).2.2.1, (h'.1 v hv).2.2.2.trans (h.1 v hv).2.2.2⟩, Nat.le_trans h.2 h'.2⟩
theorem sl_rf {k : Nat} {T : sT} : sameL k T T := ⟨fun _ _ => ⟨rfl, rfl, rfl, rfl⟩, Nat.le_refl _⟩
theorem sl_cl {k : Nat} {T : sT} : sameL k T (sCl T) := ⟨fun _ _ => ⟨rfl, rfl, rfl, rfl⟩, Nat.le_refl _⟩
theorem sl_ad {k : Nat} {x : sE} {T : sT} : sameL k T (sAd T x) := ⟨fun _ _ => ⟨rfl, rfl, rfl, rfl⟩, Nat.le_refl _⟩
theorem tE_wkT {R : sR} {L : List sA} {e : Nat} {T : sT} : tE (wkT R L e T) = (wk R L 401 e (tE T, tW T, 0)).1 := rfl
theorem tC_wkT {R : sR} {L : List sA} {e : Nat} {T : sT} : tC (wkT R L e T) = tC T := rfl
theorem tA_wkT {R : sR} {L : List sA} {e : Nat} {T : sT} : tA (wkT R L e T) = tA T := rfl
theorem tS_wkT {R : sR} {L : List sA} {e : Nat} {T : sT} : tS (wkT R L e T) = tS T := rfl
theorem sl_wk {k e : Nat} {R : sR} {L : List sA} {T : sT} : sameL k T (wkT R L e T) := ⟨fun _ _ => ⟨rfl, rfl, rfl, rfl⟩, Nat.le_refl _⟩
theorem sl_K {k : Nat} {T : sT} : sameL k T (sK T (k + 1)) := ⟨fun v hv => ⟨by rw [tK_sK]; exact va_n (by omega), rfl, rfl, rfl⟩, Nat.le_refl _⟩
theorem sl_B {k : Nat} {T : sT} : sameL k T (sB T (k + 1)) := ⟨fun v hv => ⟨rfl, by rw [tB_sB]; exact va_n (by omega), rfl, rfl⟩, Nat.le_refl _⟩
theorem sl_Q {k e : Nat} {T : sT} : sameL k T (sQ T (k + 1) e) := ⟨fun v hv => ⟨rfl, rfl, by rw [tQ_sQ]; exact va_n (by omega), rfl⟩, Nat.le_refl _⟩
theorem sl_P {k e : Nat} {T : sT} : sameL k T (sPush T (k + 1) e) := ⟨fun v hv => ⟨rfl, rfl, rfl, by rw [tL_sPush]; exact va_n (by omega)⟩, Nat.le_refl _⟩
theorem nov {T T' : sT} (h : ¬ tOv T) (hs : tS T' = tS T) (hf : tF T' = tF T) : ¬ tOv T' := by unfold tOv at h ⊢; rw [hs, hf]; exact h
theorem nov_cl {T : sT} (h : ¬ tOv T) : ¬ tOv (sCl T) := nov h (tS_sCl T) (tF_sCl T)
theorem nov_ad {T : sT} {x : sE} (h : ¬ tOv T) : ¬ tOv (sAd T x) := nov h (tS_sAd T x) (tF_sAd T x)
theorem nov_Q {T : sT} {v e : Nat} (h : ¬ tOv T) : ¬ tOv (sQ T v e) := nov h (tS_sQ T v e) (tF_sQ T v e)
theorem nov_K {T : sT} {v : Nat} (h : ¬ tOv T) : ¬ tOv (sK T v) := nov h (tS_sK T v) (tF_sK T v)
theorem nov_B {T : sT} {v : Nat} (h : ¬ tOv T) : ¬ tOv (sB T v) := nov h (tS_sB T v) (tF_sB T v)
theorem nov_P {T : sT} {v e : Nat} (h : ¬ tOv T) : ¬ tOv (sPush T v e) := nov h (tS_sPush T v e) (tF_sPush T v e)
theorem nov_O {T : sT} {v : Nat} {r : List Nat} (h : ¬ tOv T) : ¬ tOv (sPop T v r) := nov h (tS_sPop T v r) (tF_sPop T v r)
theorem nov_wk {R : sR} {L : List sA} {e : Nat} {T : sT} (h : tS T = false) (hz : tF (wkT R L e T) = 0) : ¬ tOv (wkT R L e T) := tOv_i (tS_wkT.trans h) hz
theorem lP_K {T : sT} {v : Nat} (h : lP T) : lP (sK T v) := h
theorem lP_B {T : sT} {v : Nat} (h : lP T) : lP (sB T v) := h
theorem lP_wk {R : sR} {L : List sA} {e : Nat} {T : sT} (h : lP T) : lP (wkT R L e T) := h
theorem lP_P {T : sT} {v e : Nat} (h : lP T) : lP (sPush T v e) := (kp.rf.P (k := v) (Nat.le_refl _)).2 h
theorem IT_B {L : List sA} {j v : Nat} {T : sT} (h : IT L j T) : IT L j (sB T v) := h
theorem cel_s {x : sT} {e : Nat} : celP (x, some e) = (sCl x, some e) := rfl
theorem cel_n {x : sT} : celP (x, none) = (x, none) := rfl
theorem pop_n {v : Nat} {T : sT} (h : ¬ tOv T) (hl : tL T v = []) : popP v T = (T, none) := by unfold popP; rw [if_neg h, hl]
theorem pop_s {v e : Nat} {r : List Nat} {T : sT} (h : ¬ tOv T) (hl : tL T v = e :: r) : popP v T = (sPop T v r, some e) := by unfold popP; rw [if_neg h, hl]
theorem pop_o {v : Nat} {T : sT} (h : tOv T) : popP v T = (T, none) := by unfold popP; rw [if_pos h]
theorem opn.sl {M k : Nat} {L : List sA} {T T' : sT} {G G' : gS} (h : opn M L T G k) (hl : ∀ v, (tL T v).length ≤ 400) (hs : sameL k T T') (hv : ∀ v, 1 ≤ v → v ≤ k → lvC M v G G') : opn M L T' G' k := h.fr hl (fun v _ h2 => hs.1 v h2) hs.2 hv
section
variable {M j : Nat} {R : sR} {L : List sA} {P : sP} {T : sT} {G : gS}
theorem RM.cl (h : RM M j R L P T G) : RM M j R L P (sCl T) (si G M 21 (nI (tC T + 1))) := h.c (T' := sCl T) rfl rfl rfl rfl rfl rfl rfl
theorem RM.c0 (h : RM M j R L P T G) : RM M j R L P T (si G M 21 (nI (tC T))) := h.c rfl rfl rfl rfl rfl rfl rfl
theorem RM.K {v : Nat} (h : RM M j R L P T G) : RM M j R L P (sK T v) G := h.eq rfl rfl rfl rfl rfl rfl rfl rfl
theorem RM.B {v : Nat} (h : RM M j R L P T G) : RM M j R L P (sB T v) G := h.eq rfl rfl rfl rfl rfl rfl rfl rfl
theorem RM.Q {v e : Nat} (h : RM M j R L P T G) : RM M j R L P (sQ T v e) G := h.eq rfl rfl rfl rfl rfl rfl rfl rfl
theorem RM.O {v : Nat} {r : List Nat} (h : RM M j R L P T G) : RM M j R L P (sPop T v r) G := h.eq rfl rfl rfl rfl rfl rfl rfl rfl
theorem RM.push {v e : Nat} (h : RM M j R L P T G) : RM M j R L P (sPush T v e) (si G M 21 (nI (tC T + 1))) := h.c (T' := sPush T v e) rfl rfl rfl rfl rfl rfl rfl
theorem fMap {x : sE} {f bf ac v : Int32} (h : RM M j R L P T G) (hn : tN T < 400) (hx : ec M j L x (tN T) (nwE M (tN T) f bf ac G)) : RM M j R L P (sCl (sAd T x)) (si (si (nwE M (tN T) f bf ac G) M 32 v) M 21 (nI (tC T + 1))) := by
  have h9 := ((h.ad hn hx).m (v := v)).cl
  rw [tC_sAd] at h9
  exact h9
theorem fSum {x : sE} {f bf ac v u : Int32} {k n : Nat} (h : RM M j R L P T G) (hn : tN T < 400) (hx : ec M j L x (tN T) (nwE M (tN T) f bf ac G)) : RM M j R L P (sCl (sQ (sAd T x) k n)) (si (si (si (nwE M (tN T) f bf ac G) M 32 v) (M + 21) k u) M 21 (nI (tC T + 1))) := by
  have h9 := ((((h.ad hn hx).m (v := v)).v (q := M + 21) (k := k) (x := u) (by omega) (by omega) (by omega)).Q (v := k) (e := n)).cl
  rw [tC_sQ, tC_sAd] at h9
  exact h9
theorem fTst {e : Nat} (h : RM M j R L P (wkT R L e T) G) : RM M j R L P (sCl (wkT R L e T)) (si G M 21 (nI (tC T + 1))) := by
  have h9 := h.cl
  rw [tC_wkT] at h9
  exact h9
theorem fTs0 {e : Nat} (h : RM M j R L P (wkT R L e T) G) : RM M j R L P (wkT R L e T) (si G M 21 (nI (tC T))) := by
  have h9 := h.c0
  rw [tC_wkT] at h9
  exact h9
theorem fPop {k : Nat} {r : List Nat} {v : Int32} (h : RM M j R L P T G) : RM M j R L P (sCl (sPop T k r)) (si (si G M 32 v) M 21 (nI (tC T + 1))) := by
  have h9 := ((h.m (v := v)).O (v := k) (r := r)).cl
  rw [tC_sPop] at h9
  exact h9
end
