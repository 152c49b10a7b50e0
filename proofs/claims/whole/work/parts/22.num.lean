/-! ===== reads behind writes, numbers: rows for 'simp (disch := omega)' ===== -/
theorem gi_ne {G : gS} {a k : Nat} {x : Int32} {b j : Nat} (h : b ≠ a) : gi (si G a k x) b j = gi G b j := by rw [gi_si, if_neg (fun e => h e.1)]
theorem gi_kn {G : gS} {a k : Nat} {x : Int32} {j : Nat} (h : j ≠ k) : gi (si G a k x) a j = gi G a j := by rw [gi_si, if_neg (fun e => h e.2)]
theorem gi_eq {G : gS} {a k : Nat} {x : Int32} : gi (si G a k x) a k = x := by rw [gi_si, if_pos ⟨rfl, rfl⟩]
theorem gl_ne {G : gS} {a k : Nat} {x : Int64} {b j : Nat} (h : b ≠ a) : gl (sl G a k x) b j = gl G b j := by rw [gl_sl, if_neg (fun e => h e.1)]
theorem gl_kn {G : gS} {a k : Nat} {x : Int64} {j : Nat} (h : j ≠ k) : gl (sl G a k x) a j = gl G a j := by rw [gl_sl, if_neg (fun e => h e.2)]
theorem gl_eq {G : gS} {a k : Nat} {x : Int64} : gl (sl G a k x) a k = x := by rw [gl_sl, if_pos ⟨rfl, rfl⟩]
theorem gr_ne {G : gS} {a k : Nat} {x : Option Nat} {b j : Nat} (h : b ≠ a) : gr (sr G a k x) b j = gr G b j := by rw [gr_sr, if_neg (fun e => h e.1)]
theorem gr_kn {G : gS} {a k : Nat} {x : Option Nat} {j : Nat} (h : j ≠ k) : gr (sr G a k x) a j = gr G a j := by rw [gr_sr, if_neg (fun e => h e.2)]
theorem gr_eq {G : gS} {a k : Nat} {x : Option Nat} : gr (sr G a k x) a k = x := by rw [gr_sr, if_pos ⟨rfl, rfl⟩]
theorem nI_cl {n : Nat} (h : n < 2147483648) : (nI n).toNatClampNeg = n := nI_clamp h
theorem vp_T {n N : Nat} (h : n < N) (hN : N < 2147483648) : vp_in (nI n) N = True := eq_true (vp_in_nI h hN)
theorem nI_le_e {a b : Nat} (ha : a < 2147483648) (hb : b < 2147483648) : (nI a ≤ nI b) = (a ≤ b) := propext (nI_leI ha hb)
theorem nI_lt_e {a b : Nat} (ha : a < 2147483648) (hb : b < 2147483648) : (nI a < nI b) = (a < b) := propext (nI_ltI ha hb)
theorem nI_eq_e {a b : Nat} (ha : a < 2147483648) (hb : b < 2147483648) : (nI a = nI b) = (a = b) := propext (nI_eq ha hb)
theorem nI_ad {a b : Nat} : nI a + nI b = nI (a + b) := nI_add a b
theorem nI_mu {a b : Nat} : nI a * nI b = nI (a * b) := pk_mul a b
theorem nI_su {a b : Nat} (h : b ≤ a) : nI a - nI b = nI (a - b) := pk_sub h
theorem i0 : (0 : Int32) = nI 0 := rfl
theorem i1 : (1 : Int32) = nI 1 := rfl
theorem i2 : (2 : Int32) = nI 2 := rfl
theorem i3 : (3 : Int32) = nI 3 := rfl
theorem i4 : (4 : Int32) = nI 4 := rfl
theorem i5 : (5 : Int32) = nI 5 := rfl
theorem i6 : (6 : Int32) = nI 6 := rfl
theorem i7 : (7 : Int32) = nI 7 := rfl
theorem i8 : (8 : Int32) = nI 8 := rfl
theorem i9 : (9 : Int32) = nI 9 := rfl
theorem i10 : (10 : Int32) = nI 10 := rfl
theorem i11 : (11 : Int32) = nI 11 := rfl
theorem i16 : (16 : Int32) = nI 16 := rfl
theorem i40 : (40 : Int32) = nI 40 := rfl
theorem i100 : (100 : Int32) = nI 100 := rfl
theorem i400 : (400 : Int32) = nI 400 := rfl
theorem i500 : (500 : Int32) = nI 500 := rfl
theorem i1000 : (1000 : Int32) = nI 1000 := rfl
theorem i1600 : (1600 : Int32) = nI 1600 := rfl
theorem ne01 : ((0 : Int32) = 1) = False := by decide
theorem ne10 : ((1 : Int32) = 0) = False := by decide
theorem nem0 : ((-1 : Int32) = 0) = False := by decide
theorem nem1 : ((-1 : Int32) = 1) = False := by decide
theorem ge0 {n : Nat} (h : n < 2147483648) : (0 ≤ nI n) = True := eq_true (nI_pos' h)
theorem lt0 {n : Nat} (h : n < 2147483648) : (nI n < 0) = False := eq_false (nI_pos h)
theorem gbr_T {A B : Prop} : gbr True A B = A := by simp [gbr]
theorem gbr_F {A B : Prop} : gbr False A B = B := by simp [gbr]
theorem gbr_i {c A B : Prop} (h1 : c → A) (h2 : ¬ c → B) : gbr c A B := ⟨h1, h2⟩
/-- an index that is in range is a number -/
theorem vp_of {x : Int32} {n : Nat} (h0 : 0 ≤ x) (h : x < nI n) (hn : n < 2147483648) : ∃ j, j < n ∧ x = nI j := by
  rcases pk_ix x (n := n) hn with h1 | h1 | h1
  · exact absurd h1 (Int32.not_lt.mpr h0)
  · exact absurd h (Int32.not_lt.mpr h1)
  · exact h1
theorem vp_in0 {n : Nat} : vp_in 0 (n + 1) = True := eq_true (by unfold vp_in; simp)
theorem cmp_eq {x y : Int64} : (lg_cmp x y = 0) = (x = y) := propext (lg_cmp_eq x y)
theorem cmp_le {x y : Int64} : (lg_cmp x y ≤ 0) = (x ≤ y) := propext (lg_cmp_le x y)
theorem cmp_gt {x y : Int64} : (0 < lg_cmp x y) = (y < x) := propext (lg_cmp_gt x y)
theorem cmp_lt {x y : Int64} : (lg_cmp x y < 0) = (x < y) := propext (lg_cmp_lt x y)
theorem cmp_ge {x y : Int64} : (0 ≤ lg_cmp x y) = (y ≤ x) := propext (lg_cmp_ge x y)
theorem b2_e0 {p : Prop} [Decidable p] : (b2 p = 0) = ¬ p := by unfold b2; by_cases h : p <;> simp [h]
theorem b2_e1 {p : Prop} [Decidable p] : (b2 p = 1) = p := by unfold b2; by_cases h : p <;> simp [h]
theorem gbr_N {c A B : Prop} [Decidable c] : gbr (¬ c) A B = gbr c B A := by unfold gbr; by_cases h : c <;> simp [h]
def bz (b : Bool) : Int32 := if b = true then 1 else 0
theorem bz_t {b : Bool} (h : b = true) : bz b = 1 := if_pos h
theorem bz_f {b : Bool} (h : b = false) : bz b = 0 := by rw [h]; rfl
theorem bz_e0 {b : Bool} : (bz b = 0) = (b = false) := by cases b <;> simp [bz]
theorem bz_e1 {b : Bool} : (bz b = 1) = (b = true) := by cases b <;> simp [bz]
theorem b2z {p : Prop} [Decidable p] : b2 p = bz (decide p) := by unfold b2 bz; by_cases h : p <;> simp [h]
