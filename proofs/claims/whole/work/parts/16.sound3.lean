section SND3
variable (p : Program) (l : Launch) (e : Env) (R : Room) (s : State) (m : MethodId) (args : Array Value) (below : List Frame) (meth : Method) (c : Code) (D : gD) (base nL : Nat) (Q : State → Prop) (cc : ByteArray)
/-- a call's entry is right in this context -/
def gCO (q : Nat × gC) : Prop :=
  ∀ (i : Instr) (cs ss pc : Nat) (lv : List (Option Value)) (st : List Value) (G : gS), ((i = .invokevirtual q.1 ∧ q.1 < 100000) ∨ (∃ ix, i = .invokestatic ix ∧ q.1 = 100000 + ix ∧ ix < 100000) ∨ ∃ ix, i = .invokespecial ix ∧ q.1 = 200000 + ix ∧ ix < 100000) → decode cc pc = .ok (i, 3) → (st.take q.2.1).length = q.2.1 → gcat (st.drop q.2.1) ≤ 8 → (cs + q.2.2.2.2.1 ≤ R.cells ∧ ss + q.2.2.2.2.2 ≤ R.slots) → grcv q.2.2.1 (st.take q.2.1).reverse G →
    ∀ K : gP, (∀ (cs ss pc : Nat) (lv : List (Option Value)) (st : List Value) (G : gS), K cs ss pc lv st G → gW p l e R s m args below meth c D base nL Q cs ss pc lv st G) →
    q.2.2.2.1 (st.take q.2.1).reverse G (fun v G' => K (cs + q.2.2.2.2.1) (ss + q.2.2.2.2.2) (pc + 3) lv (v.toList ++ st.drop q.2.1) G') → gW p l e R s m args below meth c D base nL Q cs ss pc lv st G
end SND3
section SND4
variable {p : Program} {l : Launch} {e : Env} {R : Room} {s : State} {m : MethodId} {args : Array Value} {below : List Frame} {meth : Method} {c : Code} {D : gD} {base nL : Nat} {Q : State → Prop}
variable {cc : ByteArray} {o : Nat} {ini : Bool} {cs ss pc : Nat} {lv : List (Option Value)} {st : List Value} {G : gS}
theorem gtg_s {off : Int} {k : Nat → Prop} (h : gtg pc off k) : ∃ t : Nat, (pc : Int) + off = (t : Int) ∧ k t := ⟨_, (Int.toNat_of_nonneg h.1).symm, h.2⟩
theorem gcall_s {ct : List (Nat × gC)} {ix Rc Rs : Nat} {k : Nat → Nat → List Value → gS → Prop} (h : gcall ct ix cs ss Rc Rs st G k) : ∃ q, (ix, q) ∈ ct ∧ (st.take q.1).length = q.1 ∧ gcat (st.drop q.1) ≤ 8 ∧ (cs + q.2.2.2.1 ≤ Rc ∧ ss + q.2.2.2.2 ≤ Rs) ∧ grcv q.2.1 (st.take q.1).reverse G ∧ q.2.2.1 (st.take q.1).reverse G (fun v G' => k (cs + q.2.2.2.1) (ss + q.2.2.2.2) (v.toList ++ st.drop q.1) G') := by
  unfold gcall at h
  split at h
  · rename_i n x S mc ms hq
    exact ⟨(n, x, S, mc, ms), glup_mem hq, h⟩
  · exact h.elim
theorem lh.at {ls : Array Slot} {nL : Nat} {lv : List (Option Value)} (h : lh ls nL lv) {i : Nat} {v : Value} (hv : lg i lv = some v) : ls[i]? = some (.val v) := h.2.2 i v hv
theorem gtab_s {x : Int32} {k : Int → Prop} {d : Int} : ∀ (offs : List Int) (v : Int), gtab x k d v offs → (∃ n : Nat, ∃ off, offs[n]? = some off ∧ x.toInt = v + n ∧ k off) ∨ ((x.toInt < v ∨ v + offs.length ≤ x.toInt) ∧ k d) := by
  intro offs
  induction offs with
  | nil =>
    intro v h
    refine Or.inr ⟨?_, h⟩
    simp
    omega
  | cons a r ih =>
    intro v h
    obtain ⟨h1, h2, h3⟩ := h
    by_cases hx : x = Int32.ofInt v
    · exact Or.inl ⟨0, a, rfl, by rw [hx, h1]; simp, h2 hx⟩
    · rcases ih (v + 1) (h3 hx) with ⟨n, off, e1, e2, e3⟩ | ⟨e1, e2⟩
      · exact Or.inl ⟨n + 1, off, e1, by rw [e2]; push_cast; omega, e3⟩
      · have hne : x.toInt ≠ v := fun q => hx (Int32.toInt_inj.mp (by rw [h1]; exact q))
        refine Or.inr ⟨?_, e2⟩
        simp only [List.length_cons]
        push_cast
        omega
theorem glkp_s {x : Int32} {k : Int → Prop} {d : Int} : ∀ (ps : List (Int × Int)), glkp x k d ps → k (Op.lookupswitch.offset ps d x.toInt) := by
  intro ps
  induction ps with
  | nil => intro h; exact h
  | cons a r ih =>
    intro h
    obtain ⟨v, off⟩ := a
    obtain ⟨h1, h2, h3⟩ := h
    rw [Op.lookupswitch.offset_cons]
    by_cases hx : x = Int32.ofInt v
    · rw [if_pos (by rw [hx, h1])]
      exact h2 hx
    · rw [if_neg (fun q => hx (Int32.toInt_inj.mp (by rw [h1]; exact q.symm)))]
      exact ih (h3 hx)
set_option maxHeartbeats 4000000 in
theorem gx_ok {K : gP} {ct : List (Nat × gC)} {RET : Nat → Nat → Nat → List Value → gS → Prop} {Rc Rs : Nat} (B : gB p s m args meth c cc nL o ini D base) (hRf : 1 ≤ R.frames ∧ 20 ≤ R.locals) (hRc : R.cells = Rc) (hRs : R.slots = Rs)
    (hR1 : ∀ (cs ss pc : Nat) (lv : List (Option Value)) (st : List Value) (G : gS), decode cc pc = .ok (.ireturn, 1) → RET 1 cs ss st G → gW p l e R s m args below meth c D base nL Q cs ss pc lv st G)
    (hR2 : ∀ (cs ss pc : Nat) (lv : List (Option Value)) (st : List Value) (G : gS), decode cc pc = .ok (.lreturn, 1) → RET 2 cs ss st G → gW p l e R s m args below meth c D base nL Q cs ss pc lv st G)
    (hR0 : ∀ (cs ss pc : Nat) (lv : List (Option Value)) (st : List Value) (G : gS), decode cc pc = .ok (.return_, 1) → RET 0 cs ss st G → gW p l e R s m args below meth c D base nL Q cs ss pc lv st G)
    (hct : ∀ q ∈ ct, gCO p l e R s m args below meth c D base nL Q cc q)
    (hK : ∀ (cs ss pc : Nat) (lv : List (Option Value)) (st : List Value) (G : gS), K cs ss pc lv st G → gW p l e R s m args below meth c D base nL Q cs ss pc lv st G)
    {i : Instr} {len : Nat} (hd : decode cc pc = .ok (i, len)) (h : gx o nL ini ct RET Rc Rs K i len cs ss pc lv st G) : gW p l e R s m args below meth c D base nL Q cs ss pc lv st G := by
  cases i
  case iconst n => obtain ⟨rfl, h⟩ := h; exact fun H locs ls hH hS hl => lv_iconst B.1 B.2.1 hd rfl (hK _ _ _ _ _ _ h H locs ls hH hS hl)
  case bipush n => obtain ⟨rfl, h⟩ := h; exact fun H locs ls hH hS hl => lv_bipush B.1 B.2.1 hd rfl (hK _ _ _ _ _ _ h H locs ls hH hS hl)
  case sipush n => obtain ⟨rfl, h⟩ := h; exact fun H locs ls hH hS hl => lv_sipush B.1 B.2.1 hd rfl (hK _ _ _ _ _ _ h H locs ls hH hS hl)
  case lconst n => obtain ⟨rfl, h⟩ := h; exact fun H locs ls hH hS hl => lv_lconst B.1 B.2.1 hd rfl (hK _ _ _ _ _ _ h H locs ls hH hS hl)
  case aconst_null => obtain ⟨rfl, h⟩ := h; exact fun H locs ls hH hS hl => lv_null B.1 B.2.1 hd (hK _ _ _ _ _ _ h H locs ls hH hS hl)
  case ldc2_w x =>
    obtain ⟨rfl, h⟩ := h
    cases e1 : gLC o x with
    | none => simp only [e1] at h
    | some v =>
      simp only [e1] at h
      exact fun H locs ls hH hS hl => lv_ldc2 B.1 B.2.1 B.2.2.2.1 (B.2.2.2.2.1 _ (gLC_ok e1)) hd (hK _ _ _ _ _ _ h H locs ls hH hS hl)
  case iload_n k => obtain ⟨rfl, h⟩ := h; obtain ⟨x, hx, h⟩ := goi_s h; exact fun H locs ls hH hS hl => lv_iload_n B.1 B.2.1 hd rfl (hl.at hx) (hK _ _ _ _ _ _ h H locs ls hH hS hl)
  case iload k => obtain ⟨rfl, h⟩ := h; obtain ⟨x, hx, h⟩ := goi_s h; exact fun H locs ls hH hS hl => lv_iload B.1 B.2.1 hd (hl.at hx) (hK _ _ _ _ _ _ h H locs ls hH hS hl)
  case lload_n k => obtain ⟨rfl, h⟩ := h; obtain ⟨x, hx, h⟩ := gol_s h; exact fun H locs ls hH hS hl => lv_lload_n B.1 B.2.1 hd rfl (hl.at hx) (hK _ _ _ _ _ _ h H locs ls hH hS hl)
  case lload k => obtain ⟨rfl, h⟩ := h; obtain ⟨x, hx, h⟩ := gol_s h; exact fun H locs ls hH hS hl => lv_lload B.1 B.2.1 hd (hl.at hx) (hK _ _ _ _ _ _ h H locs ls hH hS hl)
  case aload_n k =>
    obtain ⟨rfl, h⟩ := h
    rcases gor_s h with ⟨x, hx, h⟩ | ⟨hx, h⟩
    · exact fun H locs ls hH hS hl => lv_aload_n B.1 B.2.1 hd rfl (hl.at hx) (hK _ _ _ _ _ _ h H locs ls hH hS hl)
    · exact fun H locs ls hH hS hl => lv_aload_nN B.1 B.2.1 hd rfl (hl.at hx) (hK _ _ _ _ _ _ h H locs ls hH hS hl)
  case aload k =>
    obtain ⟨rfl, h⟩ := h
    rcases gor_s h with ⟨x, hx, h⟩ | ⟨hx, h⟩
    · exact fun H locs ls hH hS hl => lv_aload B.1 B.2.1 hd (hl.at hx) (hK _ _ _ _ _ _ h H locs ls hH hS hl)
    · exact fun H locs ls hH hS hl => lv_aloadN B.1 B.2.1 hd (hl.at hx) (hK _ _ _ _ _ _ h H locs ls hH hS hl)
  case istore_n k =>
    obtain ⟨rfl, h⟩ := h; obtain ⟨x, r, rfl, hk, h⟩ := g1i_s h
    exact fun H locs ls hH hS hl => lv_istore_n B.1 B.2.1 hd rfl hl.has hk rfl (fun ls' hl' => hK _ _ _ _ _ _ h H locs ls' hH hS (lh.st1 hl'))
  case istore k =>
    obtain ⟨rfl, h⟩ := h; obtain ⟨x, r, rfl, hk, h⟩ := g1i_s h
    exact fun H locs ls hH hS hl => lv_istore B.1 B.2.1 hd hl.has hk rfl (fun ls' hl' => hK _ _ _ _ _ _ h H locs ls' hH hS (lh.st1 hl'))
  case lstore_n k =>
    obtain ⟨rfl, h⟩ := h; obtain ⟨x, r, rfl, hk, h⟩ := g1l_s h
    exact fun H locs ls hH hS hl => lv_lstore_n B.1 B.2.1 hd rfl hl.has hk rfl (fun ls' hl' => hK _ _ _ _ _ _ h H locs ls' hH hS (lh.st2 hl'))
  case lstore k =>
    obtain ⟨rfl, h⟩ := h; obtain ⟨x, r, rfl, hk, h⟩ := g1l_s h
    exact fun H locs ls hH hS hl => lv_lstore B.1 B.2.1 hd hl.has hk rfl (fun ls' hl' => hK _ _ _ _ _ _ h H locs ls' hH hS (lh.st2 hl'))
  case astore_n k =>
    obtain ⟨rfl, h⟩ := h
    rcases g1q_s h with ⟨x, r, rfl, hk, h⟩ | ⟨r, rfl, hk, h⟩
    · exact fun H locs ls hH hS hl => lv_astore_n B.1 B.2.1 hd rfl hl.has hk rfl (fun ls' hl' => hK _ _ _ _ _ _ h H locs ls' hH hS (lh.st1 hl'))
    · exact fun H locs ls hH hS hl => lv_astore_nN B.1 B.2.1 hd rfl hl.has hk rfl (fun ls' hl' => hK _ _ _ _ _ _ h H locs ls' hH hS (lh.st1 hl'))
  case astore k =>
    obtain ⟨rfl, h⟩ := h
    rcases g1q_s h with ⟨x, r, rfl, hk, h⟩ | ⟨r, rfl, hk, h⟩
    · exact fun H locs ls hH hS hl => lv_astore B.1 B.2.1 hd hl.has hk rfl (fun ls' hl' => hK _ _ _ _ _ _ h H locs ls' hH hS (lh.st1 hl'))
    · exact fun H locs ls hH hS hl => lv_astoreN B.1 B.2.1 hd hl.has hk rfl (fun ls' hl' => hK _ _ _ _ _ _ h H locs ls' hH hS (lh.st1 hl'))
  case iinc k n =>
    obtain ⟨rfl, h⟩ := h; obtain ⟨x, hx, hk, h⟩ := goi_s h
    intro H locs ls hH hS hl
    obtain ⟨q, hq⟩ := List.getElem?_of_mem (lal_mem.mpr hx : (k, Value.int x) ∈ lal lv)
    exact lv_iinc B.1 B.2.1 hd hl.has hq rfl hk rfl (fun ls' hl' => hK _ _ _ _ _ _ h H locs ls' hH hS (lh.st1 hl'))
  case iadd => obtain ⟨rfl, h⟩ := h; obtain ⟨x, y, r, rfl, h⟩ := g2i_s h; exact fun H locs ls hH hS hl => lv_iadd B.1 B.2.1 hd (hK _ _ _ _ _ _ h H locs ls hH hS hl)
  case isub => obtain ⟨rfl, h⟩ := h; obtain ⟨x, y, r, rfl, h⟩ := g2i_s h; exact fun H locs ls hH hS hl => lv_isub B.1 B.2.1 hd (hK _ _ _ _ _ _ h H locs ls hH hS hl)
  case imul => obtain ⟨rfl, h⟩ := h; obtain ⟨x, y, r, rfl, h⟩ := g2i_s h; exact fun H locs ls hH hS hl => lv_imul B.1 B.2.1 hd (hK _ _ _ _ _ _ h H locs ls hH hS hl)
  case iand => obtain ⟨rfl, h⟩ := h; obtain ⟨x, y, r, rfl, h⟩ := g2i_s h; exact fun H locs ls hH hS hl => lv_iand B.1 B.2.1 hd (hK _ _ _ _ _ _ h H locs ls hH hS hl)
  case idiv => obtain ⟨rfl, h⟩ := h; obtain ⟨x, y, r, rfl, hy, h⟩ := g2i_s h; exact fun H locs ls hH hS hl => lv_idiv B.1 B.2.1 hd hy (hK _ _ _ _ _ _ h H locs ls hH hS hl)
  case ladd => obtain ⟨rfl, h⟩ := h; obtain ⟨x, y, r, rfl, h⟩ := g2l_s h; exact fun H locs ls hH hS hl => lv_ladd B.1 B.2.1 hd (hK _ _ _ _ _ _ h H locs ls hH hS hl)
  case lsub => obtain ⟨rfl, h⟩ := h; obtain ⟨x, y, r, rfl, h⟩ := g2l_s h; exact fun H locs ls hH hS hl => lv_lsub B.1 B.2.1 hd (hK _ _ _ _ _ _ h H locs ls hH hS hl)
  case lmul => obtain ⟨rfl, h⟩ := h; obtain ⟨x, y, r, rfl, h⟩ := g2l_s h; exact fun H locs ls hH hS hl => lv_lmul B.1 B.2.1 hd (hK _ _ _ _ _ _ h H locs ls hH hS hl)
  case land => obtain ⟨rfl, h⟩ := h; obtain ⟨x, y, r, rfl, h⟩ := g2l_s h; exact fun H locs ls hH hS hl => lv_land B.1 B.2.1 hd (hK _ _ _ _ _ _ h H locs ls hH hS hl)
  case lor => obtain ⟨rfl, h⟩ := h; obtain ⟨x, y, r, rfl, h⟩ := g2l_s h; exact fun H locs ls hH hS hl => lv_lor B.1 B.2.1 hd (hK _ _ _ _ _ _ h H locs ls hH hS hl)
  case ldiv => obtain ⟨rfl, h⟩ := h; obtain ⟨x, y, r, rfl, hy, h⟩ := g2l_s h; exact fun H locs ls hH hS hl => lv_ldiv B.1 B.2.1 hd hy (hK _ _ _ _ _ _ h H locs ls hH hS hl)
  case lshl => obtain ⟨rfl, h⟩ := h; obtain ⟨x, y, r, rfl, h⟩ := gil_s h; exact fun H locs ls hH hS hl => lv_lshl B.1 B.2.1 hd rfl (hK _ _ _ _ _ _ h H locs ls hH hS hl)
  case lcmp => obtain ⟨rfl, h⟩ := h; obtain ⟨x, y, r, rfl, h⟩ := g2l_s h; exact fun H locs ls hH hS hl => W.lcmp B.1 B.2.1 hd (hK _ _ _ _ _ _ h H locs ls hH hS hl)
  case i2l => obtain ⟨rfl, h⟩ := h; obtain ⟨x, r, rfl, h⟩ := g1i_s h; exact fun H locs ls hH hS hl => lv_i2l B.1 B.2.1 hd rfl (hK _ _ _ _ _ _ h H locs ls hH hS hl)
  case i2b => obtain ⟨rfl, h⟩ := h; obtain ⟨x, r, rfl, h⟩ := g1i_s h; exact fun H locs ls hH hS hl => lv_i2b B.1 B.2.1 hd rfl (hK _ _ _ _ _ _ h H locs ls hH hS hl)
  case l2i => obtain ⟨rfl, h⟩ := h; obtain ⟨x, r, rfl, h⟩ := g1l_s h; exact fun H locs ls hH hS hl => lv_l2i B.1 B.2.1 hd rfl (hK _ _ _ _ _ _ h H locs ls hH hS hl)
  case dup =>
    obtain ⟨rfl, h⟩ := h
    unfold gdup at h
    split at h
    · exact fun H locs ls hH hS hl => lv_dup B.1 B.2.1 hd rfl (hK _ _ _ _ _ _ h H locs ls hH hS hl)
    · exact fun H locs ls hH hS hl => lv_dup B.1 B.2.1 hd rfl (hK _ _ _ _ _ _ h H locs ls hH hS hl)
    · exact h.elim
  case dup2 =>
    obtain ⟨rfl, h⟩ := h
    unfold gdup2 at h
    split at h
    · exact fun H locs ls hH hS hl => lv_dup2_2 B.1 B.2.1 hd rfl (hK _ _ _ _ _ _ h H locs ls hH hS hl)
    · exact fun H locs ls hH hS hl => lv_dup2_11 B.1 B.2.1 hd rfl rfl (hK _ _ _ _ _ _ h H locs ls hH hS hl)
    · exact fun H locs ls hH hS hl => lv_dup2_11 B.1 B.2.1 hd rfl rfl (hK _ _ _ _ _ _ h H locs ls hH hS hl)
    · exact h.elim
  case ifCond cmp off =>
    cases cmp <;> obtain ⟨rfl, ha⟩ := h <;> obtain ⟨x, r, rfl, hb⟩ := g1i_s ha <;> obtain ⟨t, ht, h1, h2⟩ := gtg_s hb <;> intro H locs ls hH hS hl
    · exact lv_if_eq B.1 B.2.1 hd ht (fun q => hK _ _ _ _ _ _ (h1 q) H locs ls hH hS hl) (fun q => hK _ _ _ _ _ _ (h2 q) H locs ls hH hS hl)
    · exact lv_if_ne B.1 B.2.1 hd ht (fun q => hK _ _ _ _ _ _ (h2 q) H locs ls hH hS hl) (fun q => hK _ _ _ _ _ _ (h1 q) H locs ls hH hS hl)
    · exact lv_if_lt B.1 B.2.1 hd ht (fun q => hK _ _ _ _ _ _ (h1 q) H locs ls hH hS hl) (fun q => hK _ _ _ _ _ _ (h2 q) H locs ls hH hS hl)
    · exact lv_if_ge B.1 B.2.1 hd ht (fun q => hK _ _ _ _ _ _ (h1 q) H locs ls hH hS hl) (fun q => hK _ _ _ _ _ _ (h2 q) H locs ls hH hS hl)
    · exact lv_if_gt B.1 B.2.1 hd ht (fun q => hK _ _ _ _ _ _ (h1 q) H locs ls hH hS hl) (fun q => hK _ _ _ _ _ _ (h2 q) H locs ls hH hS hl)
    · exact lv_if_le B.1 B.2.1 hd ht (fun q => hK _ _ _ _ _ _ (h1 q) H locs ls hH hS hl) (fun q => hK _ _ _ _ _ _ (h2 q) H locs ls hH hS hl)
  case if_icmp cmp off =>
    cases cmp <;> obtain ⟨rfl, ha⟩ := h <;> obtain ⟨x, y, r, rfl, hb⟩ := g2i_s ha <;> obtain ⟨t, ht, h1, h2⟩ := gtg_s hb <;> intro H locs ls hH hS hl
    · exact lv_icmp_eq B.1 B.2.1 hd ht (fun q => hK _ _ _ _ _ _ (h1 q) H locs ls hH hS hl) (fun q => hK _ _ _ _ _ _ (h2 q) H locs ls hH hS hl)
    · exact lv_icmp_ne B.1 B.2.1 hd ht (fun q => hK _ _ _ _ _ _ (h2 q) H locs ls hH hS hl) (fun q => hK _ _ _ _ _ _ (h1 q) H locs ls hH hS hl)
    · exact lv_icmp_lt B.1 B.2.1 hd ht (fun q => hK _ _ _ _ _ _ (h1 q) H locs ls hH hS hl) (fun q => hK _ _ _ _ _ _ (h2 q) H locs ls hH hS hl)
    · exact lv_icmp_ge B.1 B.2.1 hd ht (fun q => hK _ _ _ _ _ _ (h1 q) H locs ls hH hS hl) (fun q => hK _ _ _ _ _ _ (h2 q) H locs ls hH hS hl)
    · exact lv_icmp_gt B.1 B.2.1 hd ht (fun q => hK _ _ _ _ _ _ (h1 q) H locs ls hH hS hl) (fun q => hK _ _ _ _ _ _ (h2 q) H locs ls hH hS hl)
    · exact lv_icmp_le B.1 B.2.1 hd ht (fun q => hK _ _ _ _ _ _ (h1 q) H locs ls hH hS hl) (fun q => hK _ _ _ _ _ _ (h2 q) H locs ls hH hS hl)
  case if_acmp cmp off =>
    cases cmp
    case ne =>
      obtain ⟨rfl, ha⟩ := h; obtain ⟨y, r1, rfl, hb⟩ := goq_s ha; obtain ⟨x, r, rfl, hc⟩ := goq_s hb; obtain ⟨t, ht, h1, h2⟩ := gtg_s hc
      exact fun H locs ls hH hS hl => lv_acmp_ne B.1 B.2.1 hd ht (fun q => hK _ _ _ _ _ _ (h2 q) H locs ls hH hS hl) (fun q => hK _ _ _ _ _ _ (h1 q) H locs ls hH hS hl)
    all_goals exact (h : False).elim
  case ifnull off => obtain ⟨rfl, h⟩ := h; obtain ⟨x, r, rfl, h⟩ := g1r_s h; exact fun H locs ls hH hS hl => lv_ifnull B.1 B.2.1 hd (hK _ _ _ _ _ _ h H locs ls hH hS hl)
  case goto off => obtain ⟨rfl, h⟩ := h; obtain ⟨t, ht, h⟩ := gtg_s h; exact fun H locs ls hH hS hl => lv_goto B.1 B.2.1 hd ht (hK _ _ _ _ _ _ h H locs ls hH hS hl)
  case getfield ix =>
    obtain ⟨rfl, ha⟩ := h; obtain ⟨a, r, rfl, hb⟩ := g1r_s ha
    clear ha
    cases e1 : gFL o ix with
    | none => simp only [e1] at hb
    | some q =>
      obtain ⟨x, k, u⟩ := q
      simp only [e1] at hb
      exact fun H locs ls hH hS hl => gg_get B hH hb.1 e1 hd (hK _ _ _ _ _ _ hb.2 H locs ls hH hS hl)
  case putfield ix =>
    obtain ⟨rfl, ha⟩ := h; obtain ⟨v, a, r, rfl, hb⟩ := gvr_s ha
    clear ha
    cases e1 : gFL o ix with
    | none => simp only [e1] at hb
    | some q =>
      obtain ⟨x, k, u⟩ := q
      simp only [e1] at hb
      obtain ⟨hsh, hu, h⟩ := hb
      generalize hty : cty x k = ty at h
      have gi_o : ∀ (y : Int32) (b : Nat), b ≠ a → ∀ k', gi (si G a k y) b k' = gi G b k' := fun y b hb k' => by rw [gi_si, if_neg (fun q => hb q.1)]
      have gl_o : ∀ (y : Int64) (b : Nat), b ≠ a → ∀ k', gl (sl G a k y) b k' = gl G b k' := fun y b hb k' => by rw [gl_sl, if_neg (fun q => hb q.1)]
      have gr_o : ∀ (y : Option Nat) (b : Nat), b ≠ a → ∀ k', gr (sr G a k y) b k' = gr G b k' := fun y b hb k' => by rw [gr_sr, if_neg (fun q => hb q.1)]
      intro H locs ls hH hS hl
      unfold gpv at h
      split at h
      · rename_i y
        refine gg_put (G' := si G a k y) B hH hS hsh e1 hu (by rw [hty]; rfl) (by rw [hty]; rfl) (fun _ => rfl) rfl (gi_o y) (fun _ _ _ => rfl) (fun _ _ _ => rfl) (fun j => ?_) hd (fun H1 locs1 hH1 hS1 => hK _ _ _ _ _ _ h H1 locs1 ls hH1 hS1 hl)
        by_cases hj : j = k
        · subst hj; simp [updV, gi_si, hty, fval]
        · simp [updV, gi_si, gl_si, gr_si, hj]
      · rename_i y
        obtain ⟨hy, h⟩ := h
        refine gg_put (G' := si G a k y) B hH hS hsh e1 hu (by rw [hty]; rcases hy with rfl | rfl <;> rfl) (by rw [hty]; rcases hy with rfl | rfl <;> rfl) (fun _ => rfl) rfl (gi_o y) (fun _ _ _ => rfl) (fun _ _ _ => rfl) (fun j => ?_) hd (fun H1 locs1 hH1 hS1 => hK _ _ _ _ _ _ h H1 locs1 ls hH1 hS1 hl)
        by_cases hj : j = k
        · subst hj; simp [updV, gi_si, hty, fval]
        · simp [updV, gi_si, gl_si, gr_si, hj]
      · rename_i y
        refine gg_put (G' := sl G a k y) B hH hS hsh e1 hu (by rw [hty]; rfl) (by rw [hty]; rfl) (fun _ => rfl) rfl (fun _ _ _ => rfl) (gl_o y) (fun _ _ _ => rfl) (fun j => ?_) hd (fun H1 locs1 hH1 hS1 => hK _ _ _ _ _ _ h H1 locs1 ls hH1 hS1 hl)
        by_cases hj : j = k
        · subst hj; simp [updV, gl_sl, hty, fval]
        · simp [updV, gi_sl, gl_sl, gr_sl, hj]
      · rename_i y
        refine gg_put (G' := sr G a k (some y)) B hH hS hsh e1 hu (by rw [hty]; rfl) (by rw [hty]; rfl) (fun _ => rfl) rfl (fun _ _ _ => rfl) (fun _ _ _ => rfl) (gr_o _) (fun j => ?_) hd (fun H1 locs1 hH1 hS1 => hK _ _ _ _ _ _ h H1 locs1 ls hH1 hS1 hl)
        by_cases hj : j = k
        · subst hj; simp [updV, gr_sr, hty, fval, va_rf]
        · simp [updV, gi_sr, gl_sr, gr_sr, hj]
      · rename_i y
        refine gg_put (G' := sr G a k (some y)) B hH hS hsh e1 hu (by rw [hty]; rfl) (by rw [hty]; rfl) (fun _ => rfl) rfl (fun _ _ _ => rfl) (fun _ _ _ => rfl) (gr_o _) (fun j => ?_) hd (fun H1 locs1 hH1 hS1 => hK _ _ _ _ _ _ h H1 locs1 ls hH1 hS1 hl)
        by_cases hj : j = k
        · subst hj; simp [updV, gr_sr, hty, fval, va_rf]
        · simp [updV, gi_sr, gl_sr, gr_sr, hj]
      · refine gg_put (G' := sr G a k none) B hH hS hsh e1 hu (by rw [hty]; rfl) (by rw [hty]; rfl) (fun _ => rfl) rfl (fun _ _ _ => rfl) (fun _ _ _ => rfl) (gr_o _) (fun j => ?_) hd (fun H1 locs1 hH1 hS1 => hK _ _ _ _ _ _ h H1 locs1 ls hH1 hS1 hl)
        by_cases hj : j = k
        · subst hj; simp [updV, gr_sr, hty, fval, va_rf]
        · simp [updV, gi_sr, gl_sr, gr_sr, hj]
      · refine gg_put (G' := sr G a k none) B hH hS hsh e1 hu (by rw [hty]; rfl) (by rw [hty]; rfl) (fun _ => rfl) rfl (fun _ _ _ => rfl) (fun _ _ _ => rfl) (gr_o _) (fun j => ?_) hd (fun H1 locs1 hH1 hS1 => hK _ _ _ _ _ _ h H1 locs1 ls hH1 hS1 hl)
        by_cases hj : j = k
        · subst hj; simp [updV, gr_sr, hty, fval, va_rf]
        · simp [updV, gi_sr, gl_sr, gr_sr, hj]
      · exact h.elim
  case iaload => obtain ⟨rfl, h⟩ := h; obtain ⟨j, a, r, rfl, h1, h2, h3, h⟩ := gir_s h; exact fun H locs ls hH hS hl => gg_iald B hH h1 h2 h3 hd (hK _ _ _ _ _ _ h H locs ls hH hS hl)
  case baload => obtain ⟨rfl, h⟩ := h; obtain ⟨j, a, r, rfl, h1, h2, h3, h⟩ := gir_s h; exact fun H locs ls hH hS hl => gg_zald B hH h1 h2 h3 hd (hK _ _ _ _ _ _ h H locs ls hH hS hl)
  case laload => obtain ⟨rfl, h⟩ := h; obtain ⟨j, a, r, rfl, h1, h2, h3, h⟩ := gir_s h; exact fun H locs ls hH hS hl => gg_lald B hH h1 h2 h3 hd (hK _ _ _ _ _ _ h H locs ls hH hS hl)
  case aaload => obtain ⟨rfl, h⟩ := h; obtain ⟨j, a, r, rfl, h1, h2, h3, h⟩ := gir_s h; exact fun H locs ls hH hS hl => gg_aald B hH h1 h2 h3 hd (hK _ _ _ _ _ _ h H locs ls hH hS hl)
  case iastore => obtain ⟨rfl, h⟩ := h; obtain ⟨x, j, a, r, rfl, h1, h2, h3, h⟩ := giir_s h; exact fun H locs ls hH hS hl => gg_iast B hH hS h1 h2 h3 hd (fun H1 locs1 hH1 hS1 => hK _ _ _ _ _ _ h H1 locs1 ls hH1 hS1 hl)
  case bastore => obtain ⟨rfl, h⟩ := h; obtain ⟨x, j, a, r, rfl, h1, h2, h3, h4, h⟩ := giir_s h; exact fun H locs ls hH hS hl => gg_zast B hH hS h1 h2 h3 h4 hd (fun H1 locs1 hH1 hS1 => hK _ _ _ _ _ _ h H1 locs1 ls hH1 hS1 hl)
  case lastore => obtain ⟨rfl, h⟩ := h; obtain ⟨x, j, a, r, rfl, h1, h2, h3, h⟩ := glir_s h; exact fun H locs ls hH hS hl => gg_last B hH hS h1 h2 h3 hd (fun H1 locs1 hH1 hS1 => hK _ _ _ _ _ _ h H1 locs1 ls hH1 hS1 hl)
  case aastore => obtain ⟨rfl, h⟩ := h; obtain ⟨b, j, a, r, rfl, h1, h2, h3, h4, h⟩ := gqir_s h; exact fun H locs ls hH hS hl => gg_aast B hH hS h1 h2 h3 h4 hd (fun H1 locs1 hH1 hS1 => hK _ _ _ _ _ _ h H1 locs1 ls hH1 hS1 hl)
  case arraylength => obtain ⟨rfl, h⟩ := h; obtain ⟨a, r, rfl, h1, h2, h⟩ := g1r_s h; exact fun H locs ls hH hS hl => gg_alen B hH h1 h2 hd (hK _ _ _ _ _ _ h H locs ls hH hS hl)
  case newarray t =>
    obtain ⟨rfl, ha⟩ := h; obtain ⟨n, r, rfl, hb⟩ := g1i_s ha
    clear ha
    cases e1 : gatt t with
    | none => simp only [e1] at hb
    | some x =>
      simp only [e1] at hb
      obtain ⟨h1, h2, h3, h4, h⟩ := hb
      exact fun H locs ls hH hS hl => gg_newa B hH hS e1 h1 h2 (by rw [hRc]; exact h3) (by rw [hRs]; exact h4) hd (fun H1 hH1 hS1 => hK _ _ _ _ _ _ h H1 locs ls hH1 hS1 hl)
  case anewarray ix =>
    obtain ⟨rfl, ha⟩ := h; obtain ⟨n, r, rfl, hb⟩ := g1i_s ha
    clear ha
    cases e1 : gCL o ix with
    | none => simp only [e1] at hb
    | some x =>
      simp only [e1] at hb
      obtain ⟨h0, h1, h2, h3, h4, h⟩ := hb
      exact fun H locs ls hH hS hl => gg_anew B hH hS e1 h0 h1 h2 (by rw [hRc]; exact h3) (by rw [hRs]; exact h4) hd (fun H1 hH1 hS1 => hK _ _ _ _ _ _ h H1 locs ls hH1 hS1 hl)
  case new ix =>
    obtain ⟨rfl, h⟩ := h
    cases e1 : gCL o ix with
    | none => simp only [e1] at h
    | some x =>
      simp only [e1] at h
      obtain ⟨h3, h4, h⟩ := h
      exact fun H locs ls hH hS hl => gg_new B hH hS e1 (by rw [hRc]; exact h3) (by rw [hRs]; exact h4) hd (fun H1 hH1 hS1 => hK _ _ _ _ _ _ h H1 locs ls hH1 hS1 hl)
  case invokevirtual ix =>
    obtain ⟨rfl, hix, h⟩ := h
    obtain ⟨q, hm, h1, h2, h3, h4, h5⟩ := gcall_s h
    exact hct (ix, q) hm (.invokevirtual ix) cs ss pc lv st G (Or.inl ⟨rfl, hix⟩) hd h1 h2 (by rw [hRc, hRs]; exact h3) h4 K hK h5
  case invokestatic ix =>
    obtain ⟨rfl, hix, h⟩ := h
    obtain ⟨q, hm, h1, h2, h3, h4, h5⟩ := gcall_s h
    exact hct (100000 + ix, q) hm (.invokestatic ix) cs ss pc lv st G (Or.inr (Or.inl ⟨ix, rfl, rfl, hix⟩)) hd h1 h2 (by rw [hRc, hRs]; exact h3) h4 K hK h5
  case invokespecial ix =>
    obtain ⟨rfl, h⟩ := h
    cases e1 : gOI o ix with
    | none =>
      simp only [e1] at h
      obtain ⟨hix, h⟩ := h
      obtain ⟨q, hm, h1, h2, h3, h4, h5⟩ := gcall_s h
      exact hct (200000 + ix, q) hm (.invokespecial ix) cs ss pc lv st G (Or.inr (Or.inr ⟨ix, rfl, rfl, hix⟩)) hd h1 h2 (by rw [hRc, hRs]; exact h3) h4 K hK h5
    | some x =>
      simp only [e1] at h
      obtain ⟨a, r, rfl, h1, h⟩ := g1r_s h
      intro H locs ls hH hS hl
      refine W.objInit B.1 B.2.1 B.2.2.2.1 (B.2.2.2.2.1 _ (gOI_ok e1)) (B.2.2.2.2.1 _ goi_in) (B.2.2.2.2.1 _ goi_code) rfl (by rw [B.2.2.1]; exact hl.1) rfl hd hRf.1 ?_ (hK _ _ _ _ _ _ h H locs ls hH hS hl)
      have h7 : gcat r ≤ 8 := h1
      show 2 * 0 + gcat r + 12 ≤ R.locals
      omega
  case ireturn => obtain ⟨rfl, h⟩ := h; exact hR1 cs ss pc lv st G hd h
  case lreturn => obtain ⟨rfl, h⟩ := h; exact hR2 cs ss pc lv st G hd h
  case return_ => obtain ⟨rfl, h⟩ := h; exact hR0 cs ss pc lv st G hd h
  case tableswitch d lo hi offs =>
    obtain ⟨x, r, rfl, hb⟩ := g1i_s h
    obtain ⟨hhi, hb⟩ := hb
    rcases gtab_s _ _ hb with ⟨n, off, e1, e2, e3⟩ | ⟨e1, e2⟩
    · obtain ⟨t, ht, h⟩ := gtg_s e3
      have hn : n < offs.size := by
        have := (List.getElem?_eq_some_iff.mp e1).1
        simpa using this
      refine fun H locs ls hH hS hl => lv_tableIn B.1 B.2.1 hd (by omega) (by omega) (off := off) ?_ ht (hK _ _ _ _ _ _ h H locs ls hH hS hl)
      rw [show (x.toInt - lo).toNat = n by omega]
      simpa using e1
    · obtain ⟨t, ht, h⟩ := gtg_s e2
      refine fun H locs ls hH hS hl => lv_tableOut B.1 B.2.1 hd ?_ ht (hK _ _ _ _ _ _ h H locs ls hH hS hl)
      rw [Array.length_toList] at e1
      omega
  case lookupswitch d ps =>
    obtain ⟨x, r, rfl, hp, h⟩ := g1i_s h
    obtain ⟨t, ht, h⟩ := gtg_s (glkp_s _ h)
    exact fun H locs ls hH hS hl => lv_lookup B.1 B.2.1 hd hp rfl ht (hK _ _ _ _ _ _ h H locs ls hH hS hl)
  all_goals exact (h : False).elim
end SND4
