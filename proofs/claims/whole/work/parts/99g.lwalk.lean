/-! ===== the law's walk: reads of the script beside all else ===== -/
def gisS (i : Instr) : Bool := match i with
  | .iaload => true
  | .arraylength => true
  | _ => false
section GL
variable (cc : ByteArray) (o nL : Nat) (ini : Bool) (ct : List (Nat × gC)) (RET : Nat → Nat → Nat → List Value → gS → Prop) (Rc Rs : Nat) (b L : Nat) (xs : Nat → Int32)
def gxL (K : gP) (i : Instr) (len cs ss pc : Nat) (lv : List (Option Value)) (st : List Value) (G : gS) : Prop :=
  (i = .iaload → gn len 1 (gir st fun j a r => a = b ∧ vp_in j L ∧ K cs ss (pc + 1) lv (.int (xs j.toNatClampNeg) :: r) G)) ∧ (i = .arraylength → gn len 1 (g1r st fun a r => a = b ∧ K cs ss (pc + 1) lv (.int (nI L) :: r) G)) ∧ (gisS i = false → gx o nL ini ct RET Rc Rs K i len cs ss pc lv st G)
def gwpL (cuts : List Nat) (K0 : gP) : Nat → gP
  | 0 => K0
  | f + 1 => fun cs ss pc lv st G => if cuts.contains pc = true then K0 cs ss pc lv st G else match decode cc pc with
    | .ok (i, len) => gxL o nL ini ct RET Rc Rs b L xs (gwpL cuts K0 f) i len cs ss pc lv st G
    | .error _ => False
def gw1L (cuts : List Nat) (K0 : gP) (f : Nat) : gP := fun cs ss pc lv st G => match decode cc pc with
    | .ok (i, len) => gxL o nL ini ct RET Rc Rs b L xs (gwpL cc o nL ini ct RET Rc Rs b L xs cuts K0 f) i len cs ss pc lv st G
    | .error _ => False
end GL
section GLS
variable {p : Program} {l : Launch} {e : Env} {R : Room} {s : State} {m : MethodId} {args : Array Value} {below : List Frame} {meth : Method} {c : Code} {D : gD} {nL : Nat} {Q : State → Prop} {cc : ByteArray} {o : Nat} {ini : Bool} {ct : List (Nat × gC)} {RET : Nat → Nat → Nat → List Value → gS → Prop} {Rc Rs : Nat} {cuts : List Nat} {K0 : gP} {f cs ss pc len b L : Nat} {lv : List (Option Value)} {st : List Value} {G : gS} {i : Instr} {xs : Nat → Int32}
theorem gxL_ok {K : gP} (O : gO p l e R s m args below meth c D s.heap.size nL Q cc o ini ct RET Rc Rs) (hX : va_X b L xs s s.heap) (hbl : b < s.heap.size) (hK : ∀ (cs ss pc : Nat) (lv : List (Option Value)) (st : List Value) (G : gS), K cs ss pc lv st G → gW p l e R s m args below meth c D s.heap.size nL Q cs ss pc lv st G) (hd : decode cc pc = .ok (i, len)) (h : gxL o nL ini ct RET Rc Rs b L xs K i len cs ss pc lv st G) : gW p l e R s m args below meth c D s.heap.size nL Q cs ss pc lv st G := by
  obtain ⟨h1, h2, h3⟩ := h
  obtain ⟨B, hRf, hRc, hRs, hR1, hR2, hR0, hct⟩ := O
  have hbA : ¬ (fun q : Nat => s.heap.size ≤ q) b := Nat.not_le.mpr hbl
  cases hi : gisS i with
  | false => exact gx_ok B hRf hRc hRs hR1 hR2 hR0 hct hK hd (h3 hi)
  | true =>
    by_cases hia : i = .iaload
    · subst hia
      obtain ⟨rfl, k1⟩ := h1 rfl
      unfold gir at k1
      split at k1
      · obtain ⟨rfl, g1, g2⟩ := k1
        intro H locs ls hH hS hl
        exact va_sld B.1 B.2.1 hX hbl hbA hS g1 hd (hK _ _ _ _ _ _ g2 H locs ls hH hS hl)
      · exact k1.elim
    · by_cases hal : i = .arraylength
      · subst hal
        obtain ⟨rfl, k2⟩ := h2 rfl
        unfold g1r at k2
        split at k2
        · obtain ⟨rfl, g2⟩ := k2
          intro H locs ls hH hS hl
          exact va_slen B.1 B.2.1 hX hbl hbA hS hd (hK _ _ _ _ _ _ g2 H locs ls hH hS hl)
        · exact k2.elim
      · exfalso
        revert hi
        unfold gisS
        split
        · exact absurd rfl hia
        · exact absurd rfl hal
        · intro h; cases h
theorem gwpL_ok (O : gO p l e R s m args below meth c D s.heap.size nL Q cc o ini ct RET Rc Rs) (hX : va_X b L xs s s.heap) (hbl : b < s.heap.size) : ∀ (f cs ss pc : Nat) (lv : List (Option Value)) (st : List Value) (G : gS), gwpL cc o nL ini ct RET Rc Rs b L xs cuts (gW p l e R s m args below meth c D s.heap.size nL Q) f cs ss pc lv st G → gW p l e R s m args below meth c D s.heap.size nL Q cs ss pc lv st G := by
  intro f
  induction f with
  | zero => intro cs ss pc lv st G h; exact h
  | succ f ih =>
    intro cs ss pc lv st G h
    unfold gwpL at h
    split at h
    · exact h
    · split at h
      · rename_i i len hd
        exact gxL_ok O hX hbl ih hd h
      · exact h.elim
theorem gw1L_ok (O : gO p l e R s m args below meth c D s.heap.size nL Q cc o ini ct RET Rc Rs) (hX : va_X b L xs s s.heap) (hbl : b < s.heap.size) (f : Nat) (h : gw1L cc o nL ini ct RET Rc Rs b L xs cuts (gW p l e R s m args below meth c D s.heap.size nL Q) f cs ss pc lv st G) : gW p l e R s m args below meth c D s.heap.size nL Q cs ss pc lv st G := by
  unfold gw1L at h
  split at h
  · rename_i i len hd
    exact gxL_ok O hX hbl (gwpL_ok O hX hbl f) hd h
  · exact h.elim
theorem gxL_s {K : gP} (hi : gisS i = false) : gxL o nL ini ct RET Rc Rs b L xs K i len cs ss pc lv st G = gx o nL ini ct RET Rc Rs K i len cs ss pc lv st G := propext ⟨fun h => h.2.2 hi, fun h => ⟨fun q => (by rw [q] at hi; cases hi), fun q => (by rw [q] at hi; cases hi), fun _ => h⟩⟩
theorem gxL_a {K : gP} : gxL o nL ini ct RET Rc Rs b L xs K .iaload len cs ss pc lv st G = gn len 1 (gir st fun j a r => a = b ∧ vp_in j L ∧ K cs ss (pc + 1) lv (.int (xs j.toNatClampNeg) :: r) G) := propext ⟨fun h => h.1 rfl, fun h => ⟨fun _ => h, fun q => (by cases q), fun q => (by cases q)⟩⟩
theorem gxL_n {K : gP} : gxL o nL ini ct RET Rc Rs b L xs K .arraylength len cs ss pc lv st G = gn len 1 (g1r st fun a r => a = b ∧ K cs ss (pc + 1) lv (.int (nI L) :: r) G) := propext ⟨fun h => h.2.1 rfl, fun h => ⟨fun q => (by cases q), fun _ => h, fun q => (by cases q)⟩⟩
theorem gwL_s (hd : decode cc pc = .ok (i, len)) (hi : gisS i = false) : gwpL cc o nL ini ct RET Rc Rs b L xs cuts K0 (f + 1) cs ss pc lv st G = if cuts.contains pc = true then K0 cs ss pc lv st G else gx o nL ini ct RET Rc Rs (gwpL cc o nL ini ct RET Rc Rs b L xs cuts K0 f) i len cs ss pc lv st G := by
  rw [← gxL_s (b := b) (L := L) (xs := xs) hi]
  conv => lhs; unfold gwpL
  rw [hd]
theorem gwL_a (hd : decode cc pc = .ok (.iaload, 1)) : gwpL cc o nL ini ct RET Rc Rs b L xs cuts K0 (f + 1) cs ss pc lv st G = if cuts.contains pc = true then K0 cs ss pc lv st G else gir st fun j a r => a = b ∧ vp_in j L ∧ gwpL cc o nL ini ct RET Rc Rs b L xs cuts K0 f cs ss (pc + 1) lv (.int (xs j.toNatClampNeg) :: r) G := by
  conv => lhs; unfold gwpL
  rw [hd]
  dsimp only
  rw [gxL_a, gn_self]
theorem gwL_n (hd : decode cc pc = .ok (.arraylength, 1)) : gwpL cc o nL ini ct RET Rc Rs b L xs cuts K0 (f + 1) cs ss pc lv st G = if cuts.contains pc = true then K0 cs ss pc lv st G else g1r st fun a r => a = b ∧ gwpL cc o nL ini ct RET Rc Rs b L xs cuts K0 f cs ss (pc + 1) lv (.int (nI L) :: r) G := by
  conv => lhs; unfold gwpL
  rw [hd]
  dsimp only
  rw [gxL_n, gn_self]
theorem g1L_s (hd : decode cc pc = .ok (i, len)) (hi : gisS i = false) : gw1L cc o nL ini ct RET Rc Rs b L xs cuts K0 f cs ss pc lv st G = gx o nL ini ct RET Rc Rs (gwpL cc o nL ini ct RET Rc Rs b L xs cuts K0 f) i len cs ss pc lv st G := by
  rw [← gxL_s (b := b) (L := L) (xs := xs) hi]
  unfold gw1L
  rw [hd]
end GLS
