/-! ===== calls, out of the callees' contracts ===== -/
section GCA
variable {p : Program} {l : Launch} {e : Env} {R : Room} {s : State} {m : MethodId} {args : Array Value} {below : List Frame} {meth : Method} {c : Code} {D : gD} {base nL : Nat} {Q : State → Prop}
variable {cc : ByteArray} {o : Nat} {ini : Bool}
theorem gcont {H : Heap} {locs : List Loc} {ls : Array Slot} {cs ss mc ms pc : Nat} {st0 rest : List Value} {lv : List (Option Value)} {post : Option Value → gS → Prop} {a : Array Value} (hr : va_Run p l e R s m args below meth c H locs cs ss mc ms (F0 m pc ls st0) rest (gQ D base post a) (fun q : Nat => base ≤ q)) (hS : va_S (fun q : Nat => base ≤ q) s.heap H locs) (hl : lh ls nL lv)
    (hk : ∀ v G', post v G' → gW p l e R s m args below meth c D base nL Q (cs + mc) (ss + ms) (pc + 3) lv (v.toList ++ rest) G') : W p l e R s m args below meth c H locs cs ss Q (F0 m pc ls st0) := by
  intro T hT X
  obtain ⟨v, st₀, t, T', L, h0, X', hL, e1, e2, ⟨⟨v', G', hv, hp, hH'⟩, hz, hq⟩, st⟩ := hr T hT X
  cases hv
  rw [h0] at hz hq
  obtain ⟨t2, a1, b1⟩ := hk v G' hp T'.heap (locs ++ L) ls (by rw [e1]; exact hH')
    ⟨Nat.le_trans hS.1 (by rw [e1]; exact hz), fun q h1 h2 => by rw [e1, hq q (Nat.lt_of_lt_of_le h1 hS.1) h2]; exact hS.2.1 q h1 h2, fun q hq => by
      rcases List.mem_append.mp hq with h | h
      · exact hS.2.2 q h
      · exact hL q h⟩ hl T' rfl X'
  exact ⟨t2, st t2 a1, b1⟩
theorem gblind {G : gS} {av : List Value} : FrameBlind (va_Pc av (fun U => gH D base G U.heap ∧ gKt D U)) := fun a U g mk q => ⟨q.1, q.2.1, gKt.same (s := U) (U := U.calling g mk a) rfl q.2.2⟩
theorem gtake {st : List Value} {n : Nat} (h : (st.take n).length = n) : st = (st.take n).reverse.reverse ++ st.drop n := by rw [List.reverse_reverse, List.take_append_drop]
/-- the words of a callee -/
def gMk (y : MethodName) (cc : ByteArray) (nL : Nat) (ret : Option FieldType) (n : Nat) : Prop := Cond.code y cc nL ret ∈ gT ∧ Cond.initialized y.cls ∈ gT ∧ y.cls ≠ "java/lang/invoke/MethodHandle" ∧ y.cls ≠ "java/lang/invoke/VarHandle" ∧ (parseMethodDescriptor y.desc).map (fun d => d.parameters.length) = some n
def gMV (x : Nat) (y : MethodName) (cc : ByteArray) (nL : Nat) (ret : Option FieldType) (n : Nat) : Prop := gMk y cc nL ret n ∧ Cond.instanceMethod y ∈ gT ∧ Cond.selects y.cls y y ∈ gT ∧ ∃ r : vw_C, vwCl[x]? = some r ∧ r.1 = y.cls
def gMS (y : MethodName) (cc : ByteArray) (nL : Nat) (ret : Option FieldType) (n : Nat) : Prop := gMk y cc nL ret n ∧ Cond.static y ∈ gT
def gMI (y : MethodName) (cc : ByteArray) (nL : Nat) (n : Nat) : Prop := gMk y cc nL none n ∧ Cond.instanceMethod y ∈ gT ∧ y.name = "<init>"
theorem gcb {y : MethodName} {cy : ByteArray} {nY n ix : Nat} {rety : Option FieldType} {rk mc ms : Nat} (B : gB p s m args meth c cc nL o ini D base) (hk : gMk y cy nY rety n) (hw : Cond.methodLink (gown o) ix y ∈ gT) (hR : rk + 1 ≤ R.frames ∧ 8 + (nY + 11) + 40 * rk ≤ R.locals) : CallB R s args (gown o) ix y cy nY rety (.code y cy nY rety :: gT) (grm rk mc ms) mc ms n :=
  callB_of n B.2.2.2.2.1 (gT_in (fun w hw => (List.mem_cons.mp hw).elim (fun e => by rw [e]; exact hk.1) id)) rfl rfl rfl (B.2.2.2.2.1 _ hk.2.1) (B.2.2.2.2.1 _ hw) ⟨hk.2.2.1, hk.2.2.2.1, hk.2.2.2.2⟩ hR
theorem gCO_V {x : Nat} {y : MethodName} {cy : ByteArray} {nY n ix : Nat} {rety : Option FieldType} {rk mc ms : Nat} {S : gSp} (B : gB p s m args meth c cc nL o ini D base) (hM : gMet l y cy nY rety rk mc ms S) (hk : gMV x y cy nY rety n) (hw : Cond.methodLink (gown o) ix y ∈ gT) (hix : ix < 100000) (hR : rk + 1 ≤ R.frames ∧ 8 + (nY + 11) + 40 * rk ≤ R.locals) :
    gCO p l e R s m args below meth c D base nL Q cc (ix, n + 1, x + 1, S, mc, ms) := by
  intro i cs ss pc lv st G hi hd hn hcat hroom hrcv K hK hS
  rcases hi with ⟨rfl, -⟩ | ⟨j, -, hj, -⟩ | ⟨j, -, hj, -⟩
  · dsimp only at hd hn hcat hroom hrcv hS
    generalize hAs : (st.take (n + 1)).reverse = AA at hrcv hS
    cases AA with
    | nil => exact hrcv.elim
    | cons v As =>
      cases v with
      | ref b =>
        have hsh : gsh G b = (1, x, 0) := hrcv
        have hlen : As.length = n := by
          have : (st.take (n + 1)).reverse.length = n + 1 := by rw [List.length_reverse]; exact hn
          rw [hAs] at this
          simpa using this
        intro H locs ls hH hS0 hl
        obtain ⟨r, hr, hrn⟩ := hk.2.2.2
        have hst : st = As.reverse ++ .ref b :: st.drop (n + 1) := by
          conv => lhs; rw [gtake hn, hAs]
          simp
        obtain ⟨r', hr', cell, g1, g2, g3, -⟩ := hH.obj hsh
        rw [hr] at hr'
        cases hr'
        refine gcont (rest := st.drop (n + 1)) (mc := mc) (ms := ms) (va_runV (C := y.cls) (b := b) (As := As) ⟨B.1, B.2.1, B.2.2.1, B.2.2.2.1, B.2.2.2.2.1⟩ (hM D base (.ref b :: As) G _ hS) ⟨gcb B hk.1 hw hR, B.2.2.2.2.1 _ hk.2.1, B.2.2.2.2.1 _ hk.2.2.1⟩ ⟨gblind, ⟨cell, g1, by rw [g3]; rfl, by rw [g2, ← hrn]; exact (B.2.2.2.2.2.2.1.1.1 x _ hr).2.1⟩, fun U hU hW => ⟨rfl, by rw [hU]; exact hH, B.2.2.2.2.2.2.1.warm hW⟩⟩ rfl hlen hl.1 hst ?_ hd hroom) hS0 hl (fun v G' hp => hK _ _ _ _ _ _ hp)
        show 2 * 0 + gcat (st.drop (n + 1)) ≤ 8
        omega
      | _ => exact hrcv.elim
  · dsimp only at hj; omega
  · dsimp only at hj; omega
theorem gCO_S {y : MethodName} {cy : ByteArray} {nY n ix : Nat} {rety : Option FieldType} {rk mc ms : Nat} {S : gSp} (B : gB p s m args meth c cc nL o ini D base) (hM : gMet l y cy nY rety rk mc ms S) (hk : gMS y cy nY rety n) (hw : Cond.methodLink (gown o) ix y ∈ gT) (hix : ix < 100000) (hR : rk + 1 ≤ R.frames ∧ 8 + (nY + 11) + 40 * rk ≤ R.locals) :
    gCO p l e R s m args below meth c D base nL Q cc (100000 + ix, n, 0, S, mc, ms) := by
  intro i cs ss pc lv st G hi hd hn hcat hroom hrcv K hK hS
  rcases hi with ⟨-, hj⟩ | ⟨j, rfl, hj, -⟩ | ⟨j, -, hj, -⟩
  · dsimp only at hj; omega
  · dsimp only at hd hn hcat hroom hrcv hS hj
    have hji : j = ix := by omega
    subst hji
    intro H locs ls hH hS0 hl
    have hlen : (st.take n).reverse.length = n := by rw [List.length_reverse]; exact hn
    refine gcont (rest := st.drop n) (mc := mc) (ms := ms) (va_runS (As := (st.take n).reverse) ⟨B.1, B.2.1, B.2.2.1, B.2.2.2.1, B.2.2.2.2.1⟩ (hM D base (st.take n).reverse G _ hS) ⟨gcb B hk.1 hw hR, B.2.2.2.2.1 _ hk.2⟩ ⟨gblind, fun U hU hW => ⟨rfl, by rw [hU]; exact hH, B.2.2.2.2.2.2.1.warm hW⟩⟩ rfl hlen hl.1 (gtake hn) ?_ hd hroom) hS0 hl (fun v G' hp => hK _ _ _ _ _ _ hp)
    show 2 * 0 + gcat (st.drop n) ≤ 8
    omega
  · dsimp only at hj; omega
theorem gCO_I {y : MethodName} {cy : ByteArray} {nY n ix x : Nat} {rk mc ms : Nat} {S : gSp} (B : gB p s m args meth c cc nL o ini D base) (hM : gMet l y cy nY none rk mc ms S) (hk : gMI y cy nY n) (hw : Cond.methodLink (gown o) ix y ∈ gT) (hix : ix < 100000) (hR : rk + 1 ≤ R.frames ∧ 8 + (nY + 11) + 40 * rk ≤ R.locals) :
    gCO p l e R s m args below meth c D base nL Q cc (200000 + ix, n + 1, x + 1, S, mc, ms) := by
  intro i cs ss pc lv st G hi hd hn hcat hroom hrcv K hK hS
  rcases hi with ⟨-, hj⟩ | ⟨j, -, hj, hj2⟩ | ⟨j, rfl, hj, -⟩
  · dsimp only at hj; omega
  · dsimp only at hj; omega
  · dsimp only at hd hn hcat hroom hrcv hS hj
    have hji : j = ix := by omega
    subst hji
    generalize hAs : (st.take (n + 1)).reverse = AA at hrcv hS
    cases AA with
    | nil => exact hrcv.elim
    | cons v As =>
      cases v with
      | ref b =>
        have hlen : As.length = n := by
          have : (st.take (n + 1)).reverse.length = n + 1 := by rw [List.length_reverse]; exact hn
          rw [hAs] at this
          simpa using this
        intro H locs ls hH hS0 hl
        have hst : st = As.reverse ++ .ref b :: st.drop (n + 1) := by
          conv => lhs; rw [gtake hn, hAs]
          simp
        refine gcont (rest := st.drop (n + 1)) (mc := mc) (ms := ms) (va_runI (b := b) (As := As) ⟨B.1, B.2.1, B.2.2.1, B.2.2.2.1, B.2.2.2.2.1⟩ (hM D base (.ref b :: As) G _ hS) ⟨gcb B hk.1 hw hR, hk.2.2, B.2.2.2.2.1 _ hk.2.1⟩ ⟨gblind, fun U hU hW => ⟨rfl, by rw [hU]; exact hH, B.2.2.2.2.2.2.1.warm hW⟩⟩ rfl hlen hl.1 hst ?_ hd hroom) hS0 hl (fun v G' hp => hK _ _ _ _ _ _ hp)
        show 2 * 0 + gcat (st.drop (n + 1)) ≤ 8
        omega
      | _ => exact hrcv.elim
theorem gcn_ok {y : MethodName} {cy : ByteArray} {nY n ix : Nat} {host : String} {rety : Option FieldType} {rk mc ms : Nat} (B : gB p s m args meth c cc nL o ini D base) (hk : gMk y cy nY rety n) (hw : va_Nw (.methodLinkNest (gown o) ix y host) s) (hR : rk + 1 ≤ R.frames ∧ 8 + (nY + 11) + 40 * rk ≤ R.locals) : va_CN R s args (gown o) ix y host cy nY rety (.code y cy nY rety :: gT) (grm rk mc ms) mc ms n :=
  va_cnB n B.2.2.2.2.1 (gT_in (fun w hw => (List.mem_cons.mp hw).elim (fun e => by rw [e]; exact hk.1) id)) rfl rfl rfl hw (B.2.2.2.2.1 _ hk.2.1) ⟨hk.2.2.1, hk.2.2.2.1, hk.2.2.2.2⟩ hR
theorem gCO_SN {y : MethodName} {cy : ByteArray} {nY n ix : Nat} {host : String} {rety : Option FieldType} {rk mc ms : Nat} {S : gSp} (B : gB p s m args meth c cc nL o ini D base) (hM : gMet l y cy nY rety rk mc ms S) (hk : gMS y cy nY rety n) (hw : va_Nw (.methodLinkNest (gown o) ix y host) s) (hix : ix < 100000) (hR : rk + 1 ≤ R.frames ∧ 8 + (nY + 11) + 40 * rk ≤ R.locals) :
    gCO p l e R s m args below meth c D base nL Q cc (100000 + ix, n, 0, S, mc, ms) := by
  intro i cs ss pc lv st G hi hd hn hcat hroom hrcv K hK hS
  rcases hi with ⟨-, hj⟩ | ⟨j, rfl, hj, -⟩ | ⟨j, -, hj, -⟩
  · dsimp only at hj; omega
  · dsimp only at hd hn hcat hroom hrcv hS hj
    have hji : j = ix := by omega
    subst hji
    intro H locs ls hH hS0 hl
    have hlen : (st.take n).reverse.length = n := by rw [List.length_reverse]; exact hn
    refine gcont (rest := st.drop n) (mc := mc) (ms := ms) (va_runSN (As := (st.take n).reverse) ⟨B.1, B.2.1, B.2.2.1, B.2.2.2.1, B.2.2.2.2.1⟩ (hM D base (st.take n).reverse G _ hS) ⟨gcn_ok B hk.1 hw hR, B.2.2.2.2.1 _ hk.2, trivial⟩ ⟨gblind, fun U hU hW => ⟨rfl, by rw [hU]; exact hH, B.2.2.2.2.2.2.1.warm hW⟩⟩ rfl hlen hl.1 (gtake hn) ?_ hd hroom) hS0 hl (fun v G' hp => hK _ _ _ _ _ _ hp)
    show 2 * 0 + gcat (st.drop n) ≤ 8
    omega
  · dsimp only at hj; omega
theorem gCO_IN {y : MethodName} {cy : ByteArray} {nY n ix x : Nat} {host : String} {rk mc ms : Nat} {S : gSp} (B : gB p s m args meth c cc nL o ini D base) (hM : gMet l y cy nY none rk mc ms S) (hk : gMI y cy nY n) (hw : va_Nw (.methodLinkNest (gown o) ix y host) s) (hix : ix < 100000) (hR : rk + 1 ≤ R.frames ∧ 8 + (nY + 11) + 40 * rk ≤ R.locals) :
    gCO p l e R s m args below meth c D base nL Q cc (200000 + ix, n + 1, x + 1, S, mc, ms) := by
  intro i cs ss pc lv st G hi hd hn hcat hroom hrcv K hK hS
  rcases hi with ⟨-, hj⟩ | ⟨j, -, hj, hj2⟩ | ⟨j, rfl, hj, -⟩
  · dsimp only at hj; omega
  · dsimp only at hj; omega
  · dsimp only at hd hn hcat hroom hrcv hS hj
    have hji : j = ix := by omega
    subst hji
    generalize hAs : (st.take (n + 1)).reverse = AA at hrcv hS
    cases AA with
    | nil => exact hrcv.elim
    | cons v As =>
      cases v with
      | ref b =>
        have hlen : As.length = n := by
          have : (st.take (n + 1)).reverse.length = n + 1 := by rw [List.length_reverse]; exact hn
          rw [hAs] at this
          simpa using this
        intro H locs ls hH hS0 hl
        have hst : st = As.reverse ++ .ref b :: st.drop (n + 1) := by
          conv => lhs; rw [gtake hn, hAs]
          simp
        refine gcont (rest := st.drop (n + 1)) (mc := mc) (ms := ms) (va_runIN (b := b) (As := As) ⟨B.1, B.2.1, B.2.2.1, B.2.2.2.1, B.2.2.2.2.1⟩ (hM D base (.ref b :: As) G _ hS) ⟨gcn_ok B hk.1 hw hR, hk.2.2, B.2.2.2.2.1 _ hk.2.1⟩ ⟨gblind, fun U hU hW => ⟨rfl, by rw [hU]; exact hH, B.2.2.2.2.2.2.1.warm hW⟩⟩ rfl hlen hl.1 hst ?_ hd hroom) hS0 hl (fun v G' hp => hK _ _ _ _ _ _ hp)
        show 2 * 0 + gcat (st.drop (n + 1)) ≤ 8
        omega
      | _ => exact hrcv.elim
end GCA
