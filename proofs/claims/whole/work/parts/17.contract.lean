/-! ===== contracts in the ghost heap's words ===== -/
def grm (rk mc ms : Nat) : Room := { frames := rk, cells := mc, slots := ms, locals := 40 * rk }
def gQ (D : gD) (base : Nat) (post : Option Value → gS → Prop) : Array Value → State → Outcome → State → Prop := fun _ st oc t => (∃ v G', oc = .returned v ∧ post v G' ∧ gH D base G' t.heap) ∧ va_F (fun q : Nat => base ≤ q) st t
/-- a method does what S says: rank rk, cells mc, slots ms -/
def gMet (l : Launch) (y : MethodName) (cc : ByteArray) (nL : Nat) (ret : Option FieldType) (rk mc ms : Nat) (S : gSp) : Prop :=
  ∀ (D : gD) (base : Nat) (av : List Value) (G : gS) (post : Option Value → gS → Prop), S av G post → Met l y (.code y cc nL ret :: gT) (grm rk mc ms) (va_Pc av (fun U => gH D base G U.heap ∧ gKt D U)) (gQ D base post) mc ms (fun q : Nat => base ≤ q)
theorem gMet.mono {l : Launch} {y : MethodName} {cc : ByteArray} {nL : Nat} {ret : Option FieldType} {rk mc ms : Nat} {S S' : gSp} (h : gMet l y cc nL ret rk mc ms S) (hs : ∀ av G post, S' av G post → S av G post) : gMet l y cc nL ret rk mc ms S' := fun D base av G post q => h D base av G post (hs av G post q)
def lpad : Nat → List (Option Value) → List (Option Value)
  | 0, l => l
  | n + 1, [] => none :: lpad n []
  | n + 1, o :: r => o :: lpad n r
theorem lpad_get : ∀ (n : Nat) (l : List (Option Value)) (i : Nat) (v : Value), lg i (lpad n l) = some v → lg i l = some v := by
  intro n
  induction n with
  | zero => intro l i v h; exact h
  | succ n ih =>
    intro l i v h
    cases l with
    | nil =>
      cases i with
      | zero => cases h
      | succ i => have := ih [] i v h; cases i <;> cases this
    | cons o r =>
      cases i with
      | zero => exact h
      | succ i => exact ih r i v h
theorem lent_args : ∀ (av : List Value) (k i : Nat) (v : Value), lg i (lent av) = some v → (k + i, v) ∈ lv_args k av := by
  intro av
  induction av with
  | nil => intro k i v h; cases i <;> cases h
  | cons a r ih =>
    intro k i v h
    have two : ∀ (w : Value), w.category = 2 → lent (w :: r) = some w :: none :: lent r → lg i (lent (w :: r)) = some v → (k + i, v) ∈ lv_args k (w :: r) := by
      intro w hw e h
      rw [e] at h
      unfold lv_args
      rw [if_pos hw]
      cases i with
      | zero => cases h; exact List.mem_cons_self
      | succ i =>
        cases i with
        | zero => cases h
        | succ i =>
          have := ih (k + 2) i v h
          rw [show k + (i + 1 + 1) = k + 2 + i by omega]
          exact List.mem_cons_of_mem _ this
    have one : ∀ (w : Value), ¬ w.category = 2 → lent (w :: r) = some w :: lent r → lg i (lent (w :: r)) = some v → (k + i, v) ∈ lv_args k (w :: r) := by
      intro w hw e h
      rw [e] at h
      unfold lv_args
      rw [if_neg hw]
      cases i with
      | zero => cases h; exact List.mem_cons_self
      | succ i =>
        have := ih (k + 1) i v h
        rw [show k + (i + 1) = k + 1 + i by omega]
        exact List.mem_cons_of_mem _ this
    cases a with
    | long x => exact two _ rfl rfl h
    | double x => exact two _ rfl rfl h
    | int x => exact one _ (by simp [Value.category]) rfl h
    | float x => exact one _ (by simp [Value.category]) rfl h
    | null => exact one _ (by simp [Value.category]) rfl h
    | ref x => exact one _ (by simp [Value.category]) rfl h
    | retAddr x => exact one _ (by simp [Value.category]) rfl h
/-- the end of a body -/
def gRET (ret : Option FieldType) (mc ms : Nat) (post : Option Value → gS → Prop) (k cs ss : Nat) (st : List Value) (G : gS) : Prop := match k, ret, st with
  | 1, some .int, [.int v] => cs ≤ mc ∧ ss ≤ ms ∧ post (some (.int v)) G
  | 1, some .boolean, [.int v] => (v = 0 ∨ v = 1) ∧ cs ≤ mc ∧ ss ≤ ms ∧ post (some (.int v)) G
  | 2, some .long, [.long v] => cs ≤ mc ∧ ss ≤ ms ∧ post (some (.long v)) G
  | 0, none, [] => cs ≤ mc ∧ ss ≤ ms ∧ post none G
  | _, _, _ => False
section CTR
variable {p : Program} {l : Launch} {e : Env} {R : Room} {s : State} {m : MethodId} {args : Array Value} {below : List Frame} {meth : Method} {c : Code} {D : gD} {base nL : Nat}
variable {cc : ByteArray} {o : Nat} {ini : Bool}
theorem gR1_ok {ret : Option FieldType} {mc ms : Nat} {post : Option Value → gS → Prop} (B : gB p s m args meth c cc nL o ini D base) (hr : meth.sig.returnType = ret) : ∀ (cs ss pc : Nat) (lv : List (Option Value)) (st : List Value) (G : gS), decode cc pc = .ok (.ireturn, 1) → gRET ret mc ms post 1 cs ss st G → gW p l e R s m args below meth c D base nL (MQ below (gQ D base post) args s mc ms (fun q : Nat => base ≤ q)) cs ss pc lv st G := by
  intro cs ss pc lv st G hd h H locs ls hH hS hl
  have hlocks := B.2.2.2.2.2.1
  unfold gRET at h
  split at h
  · refine W.widen h.1 h.2.1 ?_
    exact W.iret B.1 B.2.1 hr (fun t ht hW => ⟨⟨_, G, rfl, h.2.2, by rw [ht]; exact hH⟩, hS.F ht⟩) hS.2.2 hd
  · refine W.widen h.2.1 h.2.2.1 ?_
    exact W.zret B.1 B.2.1 hr (by rcases h.1 with rfl | rfl <;> rfl) (fun t ht hW => ⟨⟨_, G, rfl, h.2.2.2, by rw [ht]; exact hH⟩, hS.F ht⟩) hS.2.2 hd
  · rename_i h0; cases h0
  · rename_i h0; cases h0
  · exact h.elim
theorem gR2_ok {ret : Option FieldType} {mc ms : Nat} {post : Option Value → gS → Prop} (B : gB p s m args meth c cc nL o ini D base) (hr : meth.sig.returnType = ret) : ∀ (cs ss pc : Nat) (lv : List (Option Value)) (st : List Value) (G : gS), decode cc pc = .ok (.lreturn, 1) → gRET ret mc ms post 2 cs ss st G → gW p l e R s m args below meth c D base nL (MQ below (gQ D base post) args s mc ms (fun q : Nat => base ≤ q)) cs ss pc lv st G := by
  intro cs ss pc lv st G hd h H locs ls hH hS hl
  have hlocks := B.2.2.2.2.2.1
  unfold gRET at h
  split at h
  · rename_i h0; cases h0
  · rename_i h0; cases h0
  · refine W.widen h.1 h.2.1 ?_
    exact W.lret B.1 B.2.1 hr (fun t ht hW => ⟨⟨_, G, rfl, h.2.2, by rw [ht]; exact hH⟩, hS.F ht⟩) hS.2.2 hd
  · rename_i h0; cases h0
  · exact h.elim
theorem gR0_ok {ret : Option FieldType} {mc ms : Nat} {post : Option Value → gS → Prop} (B : gB p s m args meth c cc nL o ini D base) (hr : meth.sig.returnType = ret) : ∀ (cs ss pc : Nat) (lv : List (Option Value)) (st : List Value) (G : gS), decode cc pc = .ok (.return_, 1) → gRET ret mc ms post 0 cs ss st G → gW p l e R s m args below meth c D base nL (MQ below (gQ D base post) args s mc ms (fun q : Nat => base ≤ q)) cs ss pc lv st G := by
  intro cs ss pc lv st G hd h H locs ls hH hS hl
  have hlocks := B.2.2.2.2.2.1
  unfold gRET at h
  split at h
  · rename_i h0; cases h0
  · rename_i h0; cases h0
  · rename_i h0; cases h0
  · refine W.widen h.1 h.2.1 ?_
    exact W.vret B.1 B.2.1 hr (fun t ht hW => ⟨⟨_, G, rfl, h.2.2, by rw [ht]; exact hH⟩, hS.F ht⟩) hS.2.2 hd
  · exact h.elim
end CTR
/-- the walk: up to the cuts, with fuel -/
def gwp (cc : ByteArray) (o nL : Nat) (ini : Bool) (ct : List (Nat × gC)) (RET : Nat → Nat → Nat → List Value → gS → Prop) (Rc Rs : Nat) (cuts : List Nat) (K0 : gP) : Nat → gP
  | 0 => K0
  | f + 1 => fun cs ss pc lv st G => if cuts.contains pc = true then K0 cs ss pc lv st G else match decode cc pc with
    | .ok (i, len) => gx o nL ini ct RET Rc Rs (gwp cc o nL ini ct RET Rc Rs cuts K0 f) i len cs ss pc lv st G
    | .error _ => False
/-- the first step of a walk, also from a cut -/
def gw1 (cc : ByteArray) (o nL : Nat) (ini : Bool) (ct : List (Nat × gC)) (RET : Nat → Nat → Nat → List Value → gS → Prop) (Rc Rs : Nat) (cuts : List Nat) (K0 : gP) (f : Nat) : gP := fun cs ss pc lv st G => match decode cc pc with
    | .ok (i, len) => gx o nL ini ct RET Rc Rs (gwp cc o nL ini ct RET Rc Rs cuts K0 f) i len cs ss pc lv st G
    | .error _ => False
section WPS
variable {p : Program} {l : Launch} {e : Env} {R : Room} {s : State} {m : MethodId} {args : Array Value} {below : List Frame} {meth : Method} {c : Code} {D : gD} {base nL : Nat} {Q : State → Prop}
variable {cc : ByteArray} {o : Nat} {ini : Bool}
/-- all that the walk's rule rests on -/
def gO (p : Program) (l : Launch) (e : Env) (R : Room) (s : State) (m : MethodId) (args : Array Value) (below : List Frame) (meth : Method) (c : Code) (D : gD) (base nL : Nat) (Q : State → Prop) (cc : ByteArray) (o : Nat) (ini : Bool) (ct : List (Nat × gC)) (RET : Nat → Nat → Nat → List Value → gS → Prop) (Rc Rs : Nat) : Prop :=
  gB p s m args meth c cc nL o ini D base ∧ (1 ≤ R.frames ∧ 20 ≤ R.locals) ∧ R.cells = Rc ∧ R.slots = Rs ∧
    (∀ (cs ss pc : Nat) (lv : List (Option Value)) (st : List Value) (G : gS), decode cc pc = .ok (.ireturn, 1) → RET 1 cs ss st G → gW p l e R s m args below meth c D base nL Q cs ss pc lv st G) ∧
    (∀ (cs ss pc : Nat) (lv : List (Option Value)) (st : List Value) (G : gS), decode cc pc = .ok (.lreturn, 1) → RET 2 cs ss st G → gW p l e R s m args below meth c D base nL Q cs ss pc lv st G) ∧
    (∀ (cs ss pc : Nat) (lv : List (Option Value)) (st : List Value) (G : gS), decode cc pc = .ok (.return_, 1) → RET 0 cs ss st G → gW p l e R s m args below meth c D base nL Q cs ss pc lv st G) ∧
    ∀ q ∈ ct, gCO p l e R s m args below meth c D base nL Q cc q
theorem gwp_ok {ct : List (Nat × gC)} {RET : Nat → Nat → Nat → List Value → gS → Prop} {Rc Rs : Nat} {cuts : List Nat} (O : gO p l e R s m args below meth c D base nL Q cc o ini ct RET Rc Rs) :
    ∀ (f cs ss pc : Nat) (lv : List (Option Value)) (st : List Value) (G : gS), gwp cc o nL ini ct RET Rc Rs cuts (gW p l e R s m args below meth c D base nL Q) f cs ss pc lv st G → gW p l e R s m args below meth c D base nL Q cs ss pc lv st G := by
  obtain ⟨B, hRf, hRc, hRs, hR1, hR2, hR0, hct⟩ := O
  intro f
  induction f with
  | zero => intro cs ss pc lv st G h; exact h
  | succ f ih =>
    intro cs ss pc lv st G h
    unfold gwp at h
    split at h
    · exact h
    · split at h
      · rename_i i len hd
        exact gx_ok B hRf hRc hRs hR1 hR2 hR0 hct ih hd h
      · exact h.elim
theorem gw1_ok {ct : List (Nat × gC)} {RET : Nat → Nat → Nat → List Value → gS → Prop} {Rc Rs : Nat} {cuts : List Nat} (O : gO p l e R s m args below meth c D base nL Q cc o ini ct RET Rc Rs) (f : Nat)
    {cs ss pc : Nat} {lv : List (Option Value)} {st : List Value} {G : gS} (h : gw1 cc o nL ini ct RET Rc Rs cuts (gW p l e R s m args below meth c D base nL Q) f cs ss pc lv st G) : gW p l e R s m args below meth c D base nL Q cs ss pc lv st G := by
  have hf := gwp_ok (cuts := cuts) O f
  obtain ⟨B, hRf, hRc, hRs, hR1, hR2, hR0, hct⟩ := O
  unfold gw1 at h
  split at h
  · rename_i i len hd
    exact gx_ok B hRf hRc hRs hR1 hR2 hR0 hct hf hd h
  · exact h.elim
theorem gW.le {cs ss pc : Nat} {lv lv' : List (Option Value)} {st : List Value} {G : gS} (h : gW p l e R s m args below meth c D base nL Q cs ss pc lv st G) (hl : lle lv lv') : gW p l e R s m args below meth c D base nL Q cs ss pc lv' st G := fun H locs ls hH hS hv => h H locs ls hH hS (hv.le hl)
theorem gW.wide {cs ss cs' ss' pc : Nat} {lv : List (Option Value)} {st : List Value} {G : gS} (h : gW p l e R s m args below meth c D base nL Q cs' ss' pc lv st G) (h1 : cs ≤ cs') (h2 : ss ≤ ss') : gW p l e R s m args below meth c D base nL Q cs ss pc lv st G := fun H locs ls hH hS hv => W.widen h1 h2 (h H locs ls hH hS hv)
end WPS
theorem gMet_of {l : Launch} {y : MethodName} {cc : ByteArray} {nL : Nat} {ret : Option FieldType} {rk mc ms : Nat} {S : gSp} (o : Nat) (ini : Bool) (ct : List (Nat × gC)) (hy : plainName y.cls = true) (hy1 : y.cls = gown o) (hini : ini = true → y.name = "<init>") (hrk : 1 ≤ rk)
    (hlen : ∀ av G post, S av G post → (lg_sl av).length ≤ nL)
    (hct : ∀ (p : Program) (e : Env) (s : State) (m : MethodId) (args : Array Value) (below : List Frame) (meth : Method) (c : Code) (D : gD) (base : Nat) (Q : State → Prop), gB p s m args meth c cc nL o ini D base → ∀ q ∈ ct, gCO p l e (grm rk mc ms) s m args below meth c D base nL Q cc q)
    (body : ∀ (p : Program) (e : Env) (s : State) (m : MethodId) (args : Array Value) (below : List Frame) (meth : Method) (c : Code) (D : gD) (base : Nat) (av : List Value) (G : gS) (post : Option Value → gS → Prop), S av G post →
      gO p l e (grm rk mc ms) s m args below meth c D base nL (MQ below (gQ D base post) args s mc ms (fun q : Nat => base ≤ q)) cc o ini ct (gRET ret mc ms post) mc ms →
      gW p l e (grm rk mc ms) s m args below meth c D base nL (MQ below (gQ D base post) args s mc ms (fun q : Nat => base ≤ q)) 0 0 0 (lpad nL (lent av)) [] G) : gMet l y cc nL ret rk mc ms S := by
  intro D base av G post hS
  refine Met.ofW (cc := cc) (maxL := nL) (ret := ret) hy rfl ?_
  intro p e s m args below meth c s₁ B hml hv
  obtain ⟨rfl, hH, hK⟩ := hv
  have hts : ∀ w ∈ gT, w.before av.toArray s = true := fun w hw => atoms_spec (ws := .code y cc nL ret :: gT) B.pre w (List.mem_cons_of_mem _ hw)
  have hB : gB p s m av.toArray meth c cc nL o ini D base := ⟨B.exec, B.bytes, hml, by rw [← hy1]; exact findClass_of_methodNamed B.named, hts, B.notSynchronized, hK, by rw [hH.1]; exact hH.2.1, fun h => by rw [(name_of_methodNamed B.named B.method).1]; exact hini h⟩
  have hO := body p e s m av.toArray below meth c D base av G post hS ⟨hB, ⟨hrk, by show 20 ≤ 40 * rk; omega⟩, rfl, rfl, gR1_ok hB B.returns, gR2_ok hB B.returns, gR0_ok hB B.returns, hct p e s m av.toArray below meth c D base _ hB⟩
  have hl := lv_entry av (n := nL) (hlen av G post hS)
  rw [lg_entry_eq]
  refine hO s.heap [] _ hH va_S.rf ⟨hl.1, hl.2.1, fun i v hi => ?_⟩
  have h1 := lent_args av 0 i v (lpad_get nL _ i v hi)
  rw [Nat.zero_add] at h1
  exact hl.2.2 _ h1
