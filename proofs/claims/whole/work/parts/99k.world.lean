/-! THE CLAIM OUT OF ONE WALK OF THE LAW'S BODY. Your part is whole_start (and what it stands on); all else here is the same for every law, but numbers. -/
def R_law : String := "FusionRulesLaw"
def lw_P (b : Addr) (xs : List Int32) (args : Array Value) (s : State) : Prop := args = #[.ref b] ∧ s.IntsAt b xs ∧ xs.length ≤ 3584 ∧ (Jvm.Cond.and given_1 narrow_1).before args s = true
def lw_Q (_ : Array Value) (s : State) (o : Outcome) (t : State) : Prop := o = .returned (some (.int 1)) ∧ Framed s o t [] 601024 7293034
def lw_Z (below : List Frame) (a : Array Value) (s : State) : State → Prop := fun t => ∃ o, t.status = .running ∧ Ended t below o ∧ lw_Q a s o t
/-- the law's own end, with 1 on the stack, nothing written that was there before, its room as the claim has it -/
theorem lw_ret {p : Program} {l : Launch} {e : Env} {s : State} {m : MethodId} {below : List Frame} {meth : Method} {c : Code} {b : Nat} (hx : p.tables.exec = Jvm.exec) (hb : c.code = code) (hr : meth.sig.returnType = ret) (hlocks : meth.locks = false) {pc : Nat} {H : Heap} {ls : Array Slot} (hdg : decode code pc = .ok (.ireturn, 1)) : W p l e room_1 s m #[Value.ref b] below meth c H [] 601024 7293034 (lw_Z below #[Value.ref b] s) (F0 m pc ls [.int 1]) := by
  intro T hT X
  obtain ⟨fs, hret, hrun, hended, hW, hframe⟩ := X.leave (v := some (.int 1)) (hlocks := hlocks) (fun h => by rw [hr] at h; cases h)
  have hmeth' : T.vm.method? m = some meth := X.method'
  refine ⟨T.setFrames fs, ?_, .returned (some (.int 1)), hrun, hended, rfl, ⟨_, rfl⟩, hW, hframe⟩
  jvm_step X.here [X.here.top, hx, hb, hdg, hmeth', hr, ret, narrow_b1]
  (try refine ⟨rfl, ?_⟩); (try refine ⟨rfl, ?_⟩)
  first | (intro acts; rw [hret _ acts rfl rfl rfl]) | rw [hret _ _ rfl rfl rfl]
  exact Steps.refl _
/-- what holds at the law's entry: the machine, the code, the tables' words (any of lw_tbl by 'hts w (by decide +kernel)'), the script of L ints xs at the cell b, what the Statement gives of the start (any of its parts by flat_of_before) -/
def lw_At (p : Program) (s : State) (m : MethodId) (meth : Method) (c : Code) (b L : Nat) (xs : Nat → Int32) : Prop :=
  p.tables.exec = Jvm.exec ∧ c.code = code ∧ meth.sig.returnType = ret ∧ c.maxLocals = 7 ∧ s.vm.findClass R_law = some m.cls ∧ (∀ w ∈ lw_tbl, w.before #[Value.ref b] s = true) ∧ va_X b L xs s s.heap ∧ b < s.heap.size ∧ meth.locks = false ∧ (Jvm.Cond.and given_1 narrow_1).before #[Value.ref b] s = true
/-! ===== the world at the law's entry ===== -/
theorem lw_D {args : Array Value} {s : State} (hts : ∀ w ∈ lw_tbl, w.before args s = true) : ∃ D : gD, gKt D s := by
  have hg : ∀ w ∈ gT, w.before args s = true := fun w hw => hts w (List.mem_filter.mp hw).1
  obtain ⟨c0, n0, k0⟩ := u_known (C := RX0) (T := TX0) (N := 3) (n := 3) hg gin_0 (hts (.instantiable RX0 3) (by decide +kernel))
  obtain ⟨c1, n1, k1⟩ := u_known (C := RX1) (T := TX1) (N := 10) (n := 10) hg gin_1 (hts (.instantiable RX1 10) (by decide +kernel))
  obtain ⟨c2, n2, k2⟩ := u_known (C := RX2) (T := TX2) (N := 7) (n := 7) hg gin_2 (hts (.instantiable RX2 7) (by decide +kernel))
  obtain ⟨c3, n3, k3⟩ := u_known (C := RX3) (T := TX3) (N := 3) (n := 3) hg gin_3 (hts (.instantiable RX3 3) (by decide +kernel))
  obtain ⟨c4, n4, k4⟩ := u_known (C := RX5) (T := TX5) (N := 17) (n := 17) hg gin_4 (hts (.instantiable RX5 17) (by decide +kernel))
  obtain ⟨c5, n5, k5⟩ := u_known (C := RX6) (T := TX6) (N := 11) (n := 11) hg gin_5 (hts (.instantiable RX6 11) (by decide +kernel))
  obtain ⟨c6, n6, k6⟩ := u_known (C := RX7) (T := TX7) (N := 41) (n := 41) hg gin_6 (hts (.instantiable RX7 41) (by decide +kernel))
  obtain ⟨a0, ka0, cp0, f0, h0, e0⟩ := Cond.arrayClass_spec (hg _ gac_int)
  obtain ⟨a1, ka1, cp1, f1, h1, e1⟩ := Cond.arrayClass_spec (hg _ gac_long)
  obtain ⟨a2, ka2, cp2, f2, h2, e2⟩ := Cond.arrayClass_spec (hg _ gac_boolean)
  have o3 : (Cond.arrayOver (.object RX0)).before args s = true := hts (.arrayOver (.object RX0)) (by decide +kernel)
  obtain ⟨cp3, a3, ka3, fc3, -, h3, e3, f3⟩ := Cond.arrayOver_spec o3
  have o4 : (Cond.arrayOver (.object RX2)).before args s = true := hts (.arrayOver (.object RX2)) (by decide +kernel)
  obtain ⟨cp4, a4, ka4, fc4, -, h4, e4, f4⟩ := Cond.arrayOver_spec o4
  have o5 : (Cond.arrayOver (.object RX3)).before args s = true := hts (.arrayOver (.object RX3)) (by decide +kernel)
  obtain ⟨cp5, a5, ka5, fc5, -, h5, e5, f5⟩ := Cond.arrayOver_spec o5
  refine ⟨((fun k => if k = 0 then c0 else if k = 1 then c1 else if k = 2 then c2 else if k = 3 then c3 else if k = 4 then c4 else if k = 5 then c5 else c6, fun k => if k = 0 then n0 else if k = 1 then n1 else if k = 2 then n2 else if k = 3 then n3 else if k = 4 then n4 else if k = 5 then n5 else n6), fun k => if k = 0 then a0 else if k = 1 then a1 else if k = 2 then a2 else if k = 3 then a3 else if k = 4 then a4 else a5), ⟨⟨fun k q hq => ?_, fun k q hq => ?_⟩, ⟨va_AO.of o3, va_AO.of o4, va_AO.of o5⟩, va_Nw.of rfl (hts gN1 (by decide +kernel)), va_Nw.of rfl (hts gN2 (by decide +kernel)), va_Nw.of rfl (hts gN3 (by decide +kernel))⟩⟩
  · match k, hq with
    | 0, hq => cases hq; exact k0
    | 1, hq => cases hq; exact k1
    | 2, hq => cases hq; exact k2
    | 3, hq => cases hq; exact k3
    | 4, hq => cases hq; exact k4
    | 5, hq => cases hq; exact k5
    | 6, hq => cases hq; exact k6
    | k + 7, hq => simp [vwCl] at hq
  · match k, hq with
    | 0, hq => cases hq; exact ⟨fun n z => ⟨fun k h => (by cases h), ka0, h0, cp0, e0⟩, f0⟩
    | 1, hq => cases hq; exact ⟨fun n z => ⟨fun k h => (by cases h), ka1, h1, cp1, e1⟩, f1⟩
    | 2, hq => cases hq; exact ⟨fun n z => ⟨fun k h => (by cases h), ka2, h2, cp2, e2⟩, f2⟩
    | 3, hq => cases hq; exact ⟨fun n z => ⟨fun k h => (by cases h), ka3, h3, cp3, e3⟩, ka3, cp3, h3, e3, fc3, f3⟩
    | 4, hq => cases hq; exact ⟨fun n z => ⟨fun k h => (by cases h), ka4, h4, cp4, e4⟩, ka4, cp4, h4, e4, fc4, f4⟩
    | 5, hq => cases hq; exact ⟨fun n z => ⟨fun k h => (by cases h), ka5, h5, cp5, e5⟩, ka5, cp5, h5, e5, fc5, f5⟩
    | k + 6, hq => simp [gtys] at hq
