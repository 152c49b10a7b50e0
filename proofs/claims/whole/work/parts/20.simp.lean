/-! printed by gen_simp.py: the equations of one instruction -/
theorem gx_iconst_m1 {o nL : Nat} {ini : Bool} {ct : List (Nat × gC)} {RET : Nat → Nat → Nat → List Value → gS → Prop} {Rc Rs : Nat} {K : gP} {len cs ss pc : Nat} {lv : List (Option Value)} {st : List Value} {G : gS} : gx o nL ini ct RET Rc Rs K (.iconst (-1)) len cs ss pc lv st G = gn len 1 (K cs ss (pc + 1) lv (.int (-1) :: st) G) := by
  show gn len 1 (K cs ss (pc + 1) lv (.int (Int32.ofInt (-1)) :: st) G) = _
  rw [show Int32.ofInt (-1) = ((-1) : Int32) from by decide]
theorem gx_iconst_0 {o nL : Nat} {ini : Bool} {ct : List (Nat × gC)} {RET : Nat → Nat → Nat → List Value → gS → Prop} {Rc Rs : Nat} {K : gP} {len cs ss pc : Nat} {lv : List (Option Value)} {st : List Value} {G : gS} : gx o nL ini ct RET Rc Rs K (.iconst 0) len cs ss pc lv st G = gn len 1 (K cs ss (pc + 1) lv (.int 0 :: st) G) := by
  show gn len 1 (K cs ss (pc + 1) lv (.int (Int32.ofInt 0) :: st) G) = _
  rw [show Int32.ofInt 0 = (0 : Int32) from by decide]
theorem gx_iconst_1 {o nL : Nat} {ini : Bool} {ct : List (Nat × gC)} {RET : Nat → Nat → Nat → List Value → gS → Prop} {Rc Rs : Nat} {K : gP} {len cs ss pc : Nat} {lv : List (Option Value)} {st : List Value} {G : gS} : gx o nL ini ct RET Rc Rs K (.iconst 1) len cs ss pc lv st G = gn len 1 (K cs ss (pc + 1) lv (.int 1 :: st) G) := by
  show gn len 1 (K cs ss (pc + 1) lv (.int (Int32.ofInt 1) :: st) G) = _
  rw [show Int32.ofInt 1 = (1 : Int32) from by decide]
theorem gx_iconst_2 {o nL : Nat} {ini : Bool} {ct : List (Nat × gC)} {RET : Nat → Nat → Nat → List Value → gS → Prop} {Rc Rs : Nat} {K : gP} {len cs ss pc : Nat} {lv : List (Option Value)} {st : List Value} {G : gS} : gx o nL ini ct RET Rc Rs K (.iconst 2) len cs ss pc lv st G = gn len 1 (K cs ss (pc + 1) lv (.int 2 :: st) G) := by
  show gn len 1 (K cs ss (pc + 1) lv (.int (Int32.ofInt 2) :: st) G) = _
  rw [show Int32.ofInt 2 = (2 : Int32) from by decide]
theorem gx_iconst_3 {o nL : Nat} {ini : Bool} {ct : List (Nat × gC)} {RET : Nat → Nat → Nat → List Value → gS → Prop} {Rc Rs : Nat} {K : gP} {len cs ss pc : Nat} {lv : List (Option Value)} {st : List Value} {G : gS} : gx o nL ini ct RET Rc Rs K (.iconst 3) len cs ss pc lv st G = gn len 1 (K cs ss (pc + 1) lv (.int 3 :: st) G) := by
  show gn len 1 (K cs ss (pc + 1) lv (.int (Int32.ofInt 3) :: st) G) = _
  rw [show Int32.ofInt 3 = (3 : Int32) from by decide]
theorem gx_iconst_4 {o nL : Nat} {ini : Bool} {ct : List (Nat × gC)} {RET : Nat → Nat → Nat → List Value → gS → Prop} {Rc Rs : Nat} {K : gP} {len cs ss pc : Nat} {lv : List (Option Value)} {st : List Value} {G : gS} : gx o nL ini ct RET Rc Rs K (.iconst 4) len cs ss pc lv st G = gn len 1 (K cs ss (pc + 1) lv (.int 4 :: st) G) := by
  show gn len 1 (K cs ss (pc + 1) lv (.int (Int32.ofInt 4) :: st) G) = _
  rw [show Int32.ofInt 4 = (4 : Int32) from by decide]
theorem gx_iconst_5 {o nL : Nat} {ini : Bool} {ct : List (Nat × gC)} {RET : Nat → Nat → Nat → List Value → gS → Prop} {Rc Rs : Nat} {K : gP} {len cs ss pc : Nat} {lv : List (Option Value)} {st : List Value} {G : gS} : gx o nL ini ct RET Rc Rs K (.iconst 5) len cs ss pc lv st G = gn len 1 (K cs ss (pc + 1) lv (.int 5 :: st) G) := by
  show gn len 1 (K cs ss (pc + 1) lv (.int (Int32.ofInt 5) :: st) G) = _
  rw [show Int32.ofInt 5 = (5 : Int32) from by decide]
theorem gx_bipush_m10 {o nL : Nat} {ini : Bool} {ct : List (Nat × gC)} {RET : Nat → Nat → Nat → List Value → gS → Prop} {Rc Rs : Nat} {K : gP} {len cs ss pc : Nat} {lv : List (Option Value)} {st : List Value} {G : gS} : gx o nL ini ct RET Rc Rs K (.bipush (-10)) len cs ss pc lv st G = gn len 2 (K cs ss (pc + 2) lv (.int (-10) :: st) G) := by
  show gn len 2 (K cs ss (pc + 2) lv (.int (Int8.ofInt (-10)).toInt32 :: st) G) = _
  rw [show (Int8.ofInt (-10)).toInt32 = ((-10) : Int32) from by decide]
theorem gx_bipush_m2 {o nL : Nat} {ini : Bool} {ct : List (Nat × gC)} {RET : Nat → Nat → Nat → List Value → gS → Prop} {Rc Rs : Nat} {K : gP} {len cs ss pc : Nat} {lv : List (Option Value)} {st : List Value} {G : gS} : gx o nL ini ct RET Rc Rs K (.bipush (-2)) len cs ss pc lv st G = gn len 2 (K cs ss (pc + 2) lv (.int (-2) :: st) G) := by
  show gn len 2 (K cs ss (pc + 2) lv (.int (Int8.ofInt (-2)).toInt32 :: st) G) = _
  rw [show (Int8.ofInt (-2)).toInt32 = ((-2) : Int32) from by decide]
theorem gx_bipush_m20 {o nL : Nat} {ini : Bool} {ct : List (Nat × gC)} {RET : Nat → Nat → Nat → List Value → gS → Prop} {Rc Rs : Nat} {K : gP} {len cs ss pc : Nat} {lv : List (Option Value)} {st : List Value} {G : gS} : gx o nL ini ct RET Rc Rs K (.bipush (-20)) len cs ss pc lv st G = gn len 2 (K cs ss (pc + 2) lv (.int (-20) :: st) G) := by
  show gn len 2 (K cs ss (pc + 2) lv (.int (Int8.ofInt (-20)).toInt32 :: st) G) = _
  rw [show (Int8.ofInt (-20)).toInt32 = ((-20) : Int32) from by decide]
theorem gx_bipush_m3 {o nL : Nat} {ini : Bool} {ct : List (Nat × gC)} {RET : Nat → Nat → Nat → List Value → gS → Prop} {Rc Rs : Nat} {K : gP} {len cs ss pc : Nat} {lv : List (Option Value)} {st : List Value} {G : gS} : gx o nL ini ct RET Rc Rs K (.bipush (-3)) len cs ss pc lv st G = gn len 2 (K cs ss (pc + 2) lv (.int (-3) :: st) G) := by
  show gn len 2 (K cs ss (pc + 2) lv (.int (Int8.ofInt (-3)).toInt32 :: st) G) = _
  rw [show (Int8.ofInt (-3)).toInt32 = ((-3) : Int32) from by decide]
theorem gx_bipush_m4 {o nL : Nat} {ini : Bool} {ct : List (Nat × gC)} {RET : Nat → Nat → Nat → List Value → gS → Prop} {Rc Rs : Nat} {K : gP} {len cs ss pc : Nat} {lv : List (Option Value)} {st : List Value} {G : gS} : gx o nL ini ct RET Rc Rs K (.bipush (-4)) len cs ss pc lv st G = gn len 2 (K cs ss (pc + 2) lv (.int (-4) :: st) G) := by
  show gn len 2 (K cs ss (pc + 2) lv (.int (Int8.ofInt (-4)).toInt32 :: st) G) = _
  rw [show (Int8.ofInt (-4)).toInt32 = ((-4) : Int32) from by decide]
theorem gx_bipush_10 {o nL : Nat} {ini : Bool} {ct : List (Nat × gC)} {RET : Nat → Nat → Nat → List Value → gS → Prop} {Rc Rs : Nat} {K : gP} {len cs ss pc : Nat} {lv : List (Option Value)} {st : List Value} {G : gS} : gx o nL ini ct RET Rc Rs K (.bipush 10) len cs ss pc lv st G = gn len 2 (K cs ss (pc + 2) lv (.int 10 :: st) G) := by
  show gn len 2 (K cs ss (pc + 2) lv (.int (Int8.ofInt 10).toInt32 :: st) G) = _
  rw [show (Int8.ofInt 10).toInt32 = (10 : Int32) from by decide]
theorem gx_bipush_11 {o nL : Nat} {ini : Bool} {ct : List (Nat × gC)} {RET : Nat → Nat → Nat → List Value → gS → Prop} {Rc Rs : Nat} {K : gP} {len cs ss pc : Nat} {lv : List (Option Value)} {st : List Value} {G : gS} : gx o nL ini ct RET Rc Rs K (.bipush 11) len cs ss pc lv st G = gn len 2 (K cs ss (pc + 2) lv (.int 11 :: st) G) := by
  show gn len 2 (K cs ss (pc + 2) lv (.int (Int8.ofInt 11).toInt32 :: st) G) = _
  rw [show (Int8.ofInt 11).toInt32 = (11 : Int32) from by decide]
theorem gx_bipush_16 {o nL : Nat} {ini : Bool} {ct : List (Nat × gC)} {RET : Nat → Nat → Nat → List Value → gS → Prop} {Rc Rs : Nat} {K : gP} {len cs ss pc : Nat} {lv : List (Option Value)} {st : List Value} {G : gS} : gx o nL ini ct RET Rc Rs K (.bipush 16) len cs ss pc lv st G = gn len 2 (K cs ss (pc + 2) lv (.int 16 :: st) G) := by
  show gn len 2 (K cs ss (pc + 2) lv (.int (Int8.ofInt 16).toInt32 :: st) G) = _
  rw [show (Int8.ofInt 16).toInt32 = (16 : Int32) from by decide]
theorem gx_bipush_31 {o nL : Nat} {ini : Bool} {ct : List (Nat × gC)} {RET : Nat → Nat → Nat → List Value → gS → Prop} {Rc Rs : Nat} {K : gP} {len cs ss pc : Nat} {lv : List (Option Value)} {st : List Value} {G : gS} : gx o nL ini ct RET Rc Rs K (.bipush 31) len cs ss pc lv st G = gn len 2 (K cs ss (pc + 2) lv (.int 31 :: st) G) := by
  show gn len 2 (K cs ss (pc + 2) lv (.int (Int8.ofInt 31).toInt32 :: st) G) = _
  rw [show (Int8.ofInt 31).toInt32 = (31 : Int32) from by decide]
theorem gx_bipush_32 {o nL : Nat} {ini : Bool} {ct : List (Nat × gC)} {RET : Nat → Nat → Nat → List Value → gS → Prop} {Rc Rs : Nat} {K : gP} {len cs ss pc : Nat} {lv : List (Option Value)} {st : List Value} {G : gS} : gx o nL ini ct RET Rc Rs K (.bipush 32) len cs ss pc lv st G = gn len 2 (K cs ss (pc + 2) lv (.int 32 :: st) G) := by
  show gn len 2 (K cs ss (pc + 2) lv (.int (Int8.ofInt 32).toInt32 :: st) G) = _
  rw [show (Int8.ofInt 32).toInt32 = (32 : Int32) from by decide]
theorem gx_bipush_40 {o nL : Nat} {ini : Bool} {ct : List (Nat × gC)} {RET : Nat → Nat → Nat → List Value → gS → Prop} {Rc Rs : Nat} {K : gP} {len cs ss pc : Nat} {lv : List (Option Value)} {st : List Value} {G : gS} : gx o nL ini ct RET Rc Rs K (.bipush 40) len cs ss pc lv st G = gn len 2 (K cs ss (pc + 2) lv (.int 40 :: st) G) := by
  show gn len 2 (K cs ss (pc + 2) lv (.int (Int8.ofInt 40).toInt32 :: st) G) = _
  rw [show (Int8.ofInt 40).toInt32 = (40 : Int32) from by decide]
theorem gx_bipush_6 {o nL : Nat} {ini : Bool} {ct : List (Nat × gC)} {RET : Nat → Nat → Nat → List Value → gS → Prop} {Rc Rs : Nat} {K : gP} {len cs ss pc : Nat} {lv : List (Option Value)} {st : List Value} {G : gS} : gx o nL ini ct RET Rc Rs K (.bipush 6) len cs ss pc lv st G = gn len 2 (K cs ss (pc + 2) lv (.int 6 :: st) G) := by
  show gn len 2 (K cs ss (pc + 2) lv (.int (Int8.ofInt 6).toInt32 :: st) G) = _
  rw [show (Int8.ofInt 6).toInt32 = (6 : Int32) from by decide]
theorem gx_bipush_7 {o nL : Nat} {ini : Bool} {ct : List (Nat × gC)} {RET : Nat → Nat → Nat → List Value → gS → Prop} {Rc Rs : Nat} {K : gP} {len cs ss pc : Nat} {lv : List (Option Value)} {st : List Value} {G : gS} : gx o nL ini ct RET Rc Rs K (.bipush 7) len cs ss pc lv st G = gn len 2 (K cs ss (pc + 2) lv (.int 7 :: st) G) := by
  show gn len 2 (K cs ss (pc + 2) lv (.int (Int8.ofInt 7).toInt32 :: st) G) = _
  rw [show (Int8.ofInt 7).toInt32 = (7 : Int32) from by decide]
theorem gx_bipush_8 {o nL : Nat} {ini : Bool} {ct : List (Nat × gC)} {RET : Nat → Nat → Nat → List Value → gS → Prop} {Rc Rs : Nat} {K : gP} {len cs ss pc : Nat} {lv : List (Option Value)} {st : List Value} {G : gS} : gx o nL ini ct RET Rc Rs K (.bipush 8) len cs ss pc lv st G = gn len 2 (K cs ss (pc + 2) lv (.int 8 :: st) G) := by
  show gn len 2 (K cs ss (pc + 2) lv (.int (Int8.ofInt 8).toInt32 :: st) G) = _
  rw [show (Int8.ofInt 8).toInt32 = (8 : Int32) from by decide]
theorem gx_bipush_9 {o nL : Nat} {ini : Bool} {ct : List (Nat × gC)} {RET : Nat → Nat → Nat → List Value → gS → Prop} {Rc Rs : Nat} {K : gP} {len cs ss pc : Nat} {lv : List (Option Value)} {st : List Value} {G : gS} : gx o nL ini ct RET Rc Rs K (.bipush 9) len cs ss pc lv st G = gn len 2 (K cs ss (pc + 2) lv (.int 9 :: st) G) := by
  show gn len 2 (K cs ss (pc + 2) lv (.int (Int8.ofInt 9).toInt32 :: st) G) = _
  rw [show (Int8.ofInt 9).toInt32 = (9 : Int32) from by decide]
theorem gx_bipush_96 {o nL : Nat} {ini : Bool} {ct : List (Nat × gC)} {RET : Nat → Nat → Nat → List Value → gS → Prop} {Rc Rs : Nat} {K : gP} {len cs ss pc : Nat} {lv : List (Option Value)} {st : List Value} {G : gS} : gx o nL ini ct RET Rc Rs K (.bipush 96) len cs ss pc lv st G = gn len 2 (K cs ss (pc + 2) lv (.int 96 :: st) G) := by
  show gn len 2 (K cs ss (pc + 2) lv (.int (Int8.ofInt 96).toInt32 :: st) G) = _
  rw [show (Int8.ofInt 96).toInt32 = (96 : Int32) from by decide]
theorem gx_sipush_1000 {o nL : Nat} {ini : Bool} {ct : List (Nat × gC)} {RET : Nat → Nat → Nat → List Value → gS → Prop} {Rc Rs : Nat} {K : gP} {len cs ss pc : Nat} {lv : List (Option Value)} {st : List Value} {G : gS} : gx o nL ini ct RET Rc Rs K (.sipush 1000) len cs ss pc lv st G = gn len 3 (K cs ss (pc + 3) lv (.int 1000 :: st) G) := by
  show gn len 3 (K cs ss (pc + 3) lv (.int (Int16.ofInt 1000).toInt32 :: st) G) = _
  rw [show (Int16.ofInt 1000).toInt32 = (1000 : Int32) from by decide]
theorem gx_sipush_1200 {o nL : Nat} {ini : Bool} {ct : List (Nat × gC)} {RET : Nat → Nat → Nat → List Value → gS → Prop} {Rc Rs : Nat} {K : gP} {len cs ss pc : Nat} {lv : List (Option Value)} {st : List Value} {G : gS} : gx o nL ini ct RET Rc Rs K (.sipush 1200) len cs ss pc lv st G = gn len 3 (K cs ss (pc + 3) lv (.int 1200 :: st) G) := by
  show gn len 3 (K cs ss (pc + 3) lv (.int (Int16.ofInt 1200).toInt32 :: st) G) = _
  rw [show (Int16.ofInt 1200).toInt32 = (1200 : Int32) from by decide]
theorem gx_sipush_160 {o nL : Nat} {ini : Bool} {ct : List (Nat × gC)} {RET : Nat → Nat → Nat → List Value → gS → Prop} {Rc Rs : Nat} {K : gP} {len cs ss pc : Nat} {lv : List (Option Value)} {st : List Value} {G : gS} : gx o nL ini ct RET Rc Rs K (.sipush 160) len cs ss pc lv st G = gn len 3 (K cs ss (pc + 3) lv (.int 160 :: st) G) := by
  show gn len 3 (K cs ss (pc + 3) lv (.int (Int16.ofInt 160).toInt32 :: st) G) = _
  rw [show (Int16.ofInt 160).toInt32 = (160 : Int32) from by decide]
theorem gx_sipush_1600 {o nL : Nat} {ini : Bool} {ct : List (Nat × gC)} {RET : Nat → Nat → Nat → List Value → gS → Prop} {Rc Rs : Nat} {K : gP} {len cs ss pc : Nat} {lv : List (Option Value)} {st : List Value} {G : gS} : gx o nL ini ct RET Rc Rs K (.sipush 1600) len cs ss pc lv st G = gn len 3 (K cs ss (pc + 3) lv (.int 1600 :: st) G) := by
  show gn len 3 (K cs ss (pc + 3) lv (.int (Int16.ofInt 1600).toInt32 :: st) G) = _
  rw [show (Int16.ofInt 1600).toInt32 = (1600 : Int32) from by decide]
theorem gx_sipush_400 {o nL : Nat} {ini : Bool} {ct : List (Nat × gC)} {RET : Nat → Nat → Nat → List Value → gS → Prop} {Rc Rs : Nat} {K : gP} {len cs ss pc : Nat} {lv : List (Option Value)} {st : List Value} {G : gS} : gx o nL ini ct RET Rc Rs K (.sipush 400) len cs ss pc lv st G = gn len 3 (K cs ss (pc + 3) lv (.int 400 :: st) G) := by
  show gn len 3 (K cs ss (pc + 3) lv (.int (Int16.ofInt 400).toInt32 :: st) G) = _
  rw [show (Int16.ofInt 400).toInt32 = (400 : Int32) from by decide]
theorem gx_sipush_500 {o nL : Nat} {ini : Bool} {ct : List (Nat × gC)} {RET : Nat → Nat → Nat → List Value → gS → Prop} {Rc Rs : Nat} {K : gP} {len cs ss pc : Nat} {lv : List (Option Value)} {st : List Value} {G : gS} : gx o nL ini ct RET Rc Rs K (.sipush 500) len cs ss pc lv st G = gn len 3 (K cs ss (pc + 3) lv (.int 500 :: st) G) := by
  show gn len 3 (K cs ss (pc + 3) lv (.int (Int16.ofInt 500).toInt32 :: st) G) = _
  rw [show (Int16.ofInt 500).toInt32 = (500 : Int32) from by decide]
theorem gx_sipush_5500 {o nL : Nat} {ini : Bool} {ct : List (Nat × gC)} {RET : Nat → Nat → Nat → List Value → gS → Prop} {Rc Rs : Nat} {K : gP} {len cs ss pc : Nat} {lv : List (Option Value)} {st : List Value} {G : gS} : gx o nL ini ct RET Rc Rs K (.sipush 5500) len cs ss pc lv st G = gn len 3 (K cs ss (pc + 3) lv (.int 5500 :: st) G) := by
  show gn len 3 (K cs ss (pc + 3) lv (.int (Int16.ofInt 5500).toInt32 :: st) G) = _
  rw [show (Int16.ofInt 5500).toInt32 = (5500 : Int32) from by decide]
theorem gx_lconst_0 {o nL : Nat} {ini : Bool} {ct : List (Nat × gC)} {RET : Nat → Nat → Nat → List Value → gS → Prop} {Rc Rs : Nat} {K : gP} {len cs ss pc : Nat} {lv : List (Option Value)} {st : List Value} {G : gS} : gx o nL ini ct RET Rc Rs K (.lconst 0) len cs ss pc lv st G = gn len 1 (K cs ss (pc + 1) lv (.long 0 :: st) G) := rfl
theorem gx_lconst_1 {o nL : Nat} {ini : Bool} {ct : List (Nat × gC)} {RET : Nat → Nat → Nat → List Value → gS → Prop} {Rc Rs : Nat} {K : gP} {len cs ss pc : Nat} {lv : List (Option Value)} {st : List Value} {G : gS} : gx o nL ini ct RET Rc Rs K (.lconst 1) len cs ss pc lv st G = gn len 1 (K cs ss (pc + 1) lv (.long 1 :: st) G) := rfl
theorem gx_ldc2_w {o nL : Nat} {ini : Bool} {ct : List (Nat × gC)} {RET : Nat → Nat → Nat → List Value → gS → Prop} {Rc Rs : Nat} {K : gP} {len cs ss pc : Nat} {lv : List (Option Value)} {st : List Value} {G : gS} {x : Nat} : gx o nL ini ct RET Rc Rs K (.ldc2_w x) len cs ss pc lv st G = gn len 3 (match gLC o x with | some v => K cs ss (pc + 3) lv (.long v :: st) G | none => False) := rfl
theorem gx_aconst_null {o nL : Nat} {ini : Bool} {ct : List (Nat × gC)} {RET : Nat → Nat → Nat → List Value → gS → Prop} {Rc Rs : Nat} {K : gP} {len cs ss pc : Nat} {lv : List (Option Value)} {st : List Value} {G : gS}  : gx o nL ini ct RET Rc Rs K (.aconst_null) len cs ss pc lv st G = gn len 1 (K cs ss (pc + 1) lv (.null :: st) G) := rfl
theorem gx_iload_n_0 {o nL : Nat} {ini : Bool} {ct : List (Nat × gC)} {RET : Nat → Nat → Nat → List Value → gS → Prop} {Rc Rs : Nat} {K : gP} {len cs ss pc : Nat} {lv : List (Option Value)} {st : List Value} {G : gS} : gx o nL ini ct RET Rc Rs K (.iload_n 0) len cs ss pc lv st G = gn len 1 (goi (lg 0 lv) fun x => K cs ss (pc + 1) lv (.int x :: st) G) := rfl
theorem gx_iload_n_1 {o nL : Nat} {ini : Bool} {ct : List (Nat × gC)} {RET : Nat → Nat → Nat → List Value → gS → Prop} {Rc Rs : Nat} {K : gP} {len cs ss pc : Nat} {lv : List (Option Value)} {st : List Value} {G : gS} : gx o nL ini ct RET Rc Rs K (.iload_n 1) len cs ss pc lv st G = gn len 1 (goi (lg 1 lv) fun x => K cs ss (pc + 1) lv (.int x :: st) G) := rfl
theorem gx_iload_n_2 {o nL : Nat} {ini : Bool} {ct : List (Nat × gC)} {RET : Nat → Nat → Nat → List Value → gS → Prop} {Rc Rs : Nat} {K : gP} {len cs ss pc : Nat} {lv : List (Option Value)} {st : List Value} {G : gS} : gx o nL ini ct RET Rc Rs K (.iload_n 2) len cs ss pc lv st G = gn len 1 (goi (lg 2 lv) fun x => K cs ss (pc + 1) lv (.int x :: st) G) := rfl
theorem gx_iload_n_3 {o nL : Nat} {ini : Bool} {ct : List (Nat × gC)} {RET : Nat → Nat → Nat → List Value → gS → Prop} {Rc Rs : Nat} {K : gP} {len cs ss pc : Nat} {lv : List (Option Value)} {st : List Value} {G : gS} : gx o nL ini ct RET Rc Rs K (.iload_n 3) len cs ss pc lv st G = gn len 1 (goi (lg 3 lv) fun x => K cs ss (pc + 1) lv (.int x :: st) G) := rfl
theorem gx_iload {o nL : Nat} {ini : Bool} {ct : List (Nat × gC)} {RET : Nat → Nat → Nat → List Value → gS → Prop} {Rc Rs : Nat} {K : gP} {len cs ss pc : Nat} {lv : List (Option Value)} {st : List Value} {G : gS} {k : Nat} : gx o nL ini ct RET Rc Rs K (.iload k) len cs ss pc lv st G = gn len 2 (goi (lg k lv) fun x => K cs ss (pc + 2) lv (.int x :: st) G) := rfl
theorem gx_lload_n_0 {o nL : Nat} {ini : Bool} {ct : List (Nat × gC)} {RET : Nat → Nat → Nat → List Value → gS → Prop} {Rc Rs : Nat} {K : gP} {len cs ss pc : Nat} {lv : List (Option Value)} {st : List Value} {G : gS} : gx o nL ini ct RET Rc Rs K (.lload_n 0) len cs ss pc lv st G = gn len 1 (gol (lg 0 lv) fun x => K cs ss (pc + 1) lv (.long x :: st) G) := rfl
theorem gx_lload_n_1 {o nL : Nat} {ini : Bool} {ct : List (Nat × gC)} {RET : Nat → Nat → Nat → List Value → gS → Prop} {Rc Rs : Nat} {K : gP} {len cs ss pc : Nat} {lv : List (Option Value)} {st : List Value} {G : gS} : gx o nL ini ct RET Rc Rs K (.lload_n 1) len cs ss pc lv st G = gn len 1 (gol (lg 1 lv) fun x => K cs ss (pc + 1) lv (.long x :: st) G) := rfl
theorem gx_lload_n_2 {o nL : Nat} {ini : Bool} {ct : List (Nat × gC)} {RET : Nat → Nat → Nat → List Value → gS → Prop} {Rc Rs : Nat} {K : gP} {len cs ss pc : Nat} {lv : List (Option Value)} {st : List Value} {G : gS} : gx o nL ini ct RET Rc Rs K (.lload_n 2) len cs ss pc lv st G = gn len 1 (gol (lg 2 lv) fun x => K cs ss (pc + 1) lv (.long x :: st) G) := rfl
theorem gx_lload_n_3 {o nL : Nat} {ini : Bool} {ct : List (Nat × gC)} {RET : Nat → Nat → Nat → List Value → gS → Prop} {Rc Rs : Nat} {K : gP} {len cs ss pc : Nat} {lv : List (Option Value)} {st : List Value} {G : gS} : gx o nL ini ct RET Rc Rs K (.lload_n 3) len cs ss pc lv st G = gn len 1 (gol (lg 3 lv) fun x => K cs ss (pc + 1) lv (.long x :: st) G) := rfl
theorem gx_lload {o nL : Nat} {ini : Bool} {ct : List (Nat × gC)} {RET : Nat → Nat → Nat → List Value → gS → Prop} {Rc Rs : Nat} {K : gP} {len cs ss pc : Nat} {lv : List (Option Value)} {st : List Value} {G : gS} {k : Nat} : gx o nL ini ct RET Rc Rs K (.lload k) len cs ss pc lv st G = gn len 2 (gol (lg k lv) fun x => K cs ss (pc + 2) lv (.long x :: st) G) := rfl
theorem gx_aload_n_0 {o nL : Nat} {ini : Bool} {ct : List (Nat × gC)} {RET : Nat → Nat → Nat → List Value → gS → Prop} {Rc Rs : Nat} {K : gP} {len cs ss pc : Nat} {lv : List (Option Value)} {st : List Value} {G : gS} : gx o nL ini ct RET Rc Rs K (.aload_n 0) len cs ss pc lv st G = gn len 1 (gor (lg 0 lv) fun x => K cs ss (pc + 1) lv (x :: st) G) := rfl
theorem gx_aload_n_1 {o nL : Nat} {ini : Bool} {ct : List (Nat × gC)} {RET : Nat → Nat → Nat → List Value → gS → Prop} {Rc Rs : Nat} {K : gP} {len cs ss pc : Nat} {lv : List (Option Value)} {st : List Value} {G : gS} : gx o nL ini ct RET Rc Rs K (.aload_n 1) len cs ss pc lv st G = gn len 1 (gor (lg 1 lv) fun x => K cs ss (pc + 1) lv (x :: st) G) := rfl
theorem gx_aload_n_2 {o nL : Nat} {ini : Bool} {ct : List (Nat × gC)} {RET : Nat → Nat → Nat → List Value → gS → Prop} {Rc Rs : Nat} {K : gP} {len cs ss pc : Nat} {lv : List (Option Value)} {st : List Value} {G : gS} : gx o nL ini ct RET Rc Rs K (.aload_n 2) len cs ss pc lv st G = gn len 1 (gor (lg 2 lv) fun x => K cs ss (pc + 1) lv (x :: st) G) := rfl
theorem gx_aload_n_3 {o nL : Nat} {ini : Bool} {ct : List (Nat × gC)} {RET : Nat → Nat → Nat → List Value → gS → Prop} {Rc Rs : Nat} {K : gP} {len cs ss pc : Nat} {lv : List (Option Value)} {st : List Value} {G : gS} : gx o nL ini ct RET Rc Rs K (.aload_n 3) len cs ss pc lv st G = gn len 1 (gor (lg 3 lv) fun x => K cs ss (pc + 1) lv (x :: st) G) := rfl
theorem gx_aload {o nL : Nat} {ini : Bool} {ct : List (Nat × gC)} {RET : Nat → Nat → Nat → List Value → gS → Prop} {Rc Rs : Nat} {K : gP} {len cs ss pc : Nat} {lv : List (Option Value)} {st : List Value} {G : gS} {k : Nat} : gx o nL ini ct RET Rc Rs K (.aload k) len cs ss pc lv st G = gn len 2 (gor (lg k lv) fun x => K cs ss (pc + 2) lv (x :: st) G) := rfl
theorem gx_istore_n_0 {o nL : Nat} {ini : Bool} {ct : List (Nat × gC)} {RET : Nat → Nat → Nat → List Value → gS → Prop} {Rc Rs : Nat} {K : gP} {len cs ss pc : Nat} {lv : List (Option Value)} {st : List Value} {G : gS} : gx o nL ini ct RET Rc Rs K (.istore_n 0) len cs ss pc lv st G = gn len 1 (g1i st fun x r => 0 < nL ∧ K cs ss (pc + 1) (ls1 0 (.int x) lv) r G) := rfl
theorem gx_istore_n_1 {o nL : Nat} {ini : Bool} {ct : List (Nat × gC)} {RET : Nat → Nat → Nat → List Value → gS → Prop} {Rc Rs : Nat} {K : gP} {len cs ss pc : Nat} {lv : List (Option Value)} {st : List Value} {G : gS} : gx o nL ini ct RET Rc Rs K (.istore_n 1) len cs ss pc lv st G = gn len 1 (g1i st fun x r => 1 < nL ∧ K cs ss (pc + 1) (ls1 1 (.int x) lv) r G) := rfl
theorem gx_istore_n_2 {o nL : Nat} {ini : Bool} {ct : List (Nat × gC)} {RET : Nat → Nat → Nat → List Value → gS → Prop} {Rc Rs : Nat} {K : gP} {len cs ss pc : Nat} {lv : List (Option Value)} {st : List Value} {G : gS} : gx o nL ini ct RET Rc Rs K (.istore_n 2) len cs ss pc lv st G = gn len 1 (g1i st fun x r => 2 < nL ∧ K cs ss (pc + 1) (ls1 2 (.int x) lv) r G) := rfl
theorem gx_istore_n_3 {o nL : Nat} {ini : Bool} {ct : List (Nat × gC)} {RET : Nat → Nat → Nat → List Value → gS → Prop} {Rc Rs : Nat} {K : gP} {len cs ss pc : Nat} {lv : List (Option Value)} {st : List Value} {G : gS} : gx o nL ini ct RET Rc Rs K (.istore_n 3) len cs ss pc lv st G = gn len 1 (g1i st fun x r => 3 < nL ∧ K cs ss (pc + 1) (ls1 3 (.int x) lv) r G) := rfl
theorem gx_istore {o nL : Nat} {ini : Bool} {ct : List (Nat × gC)} {RET : Nat → Nat → Nat → List Value → gS → Prop} {Rc Rs : Nat} {K : gP} {len cs ss pc : Nat} {lv : List (Option Value)} {st : List Value} {G : gS} {k : Nat} : gx o nL ini ct RET Rc Rs K (.istore k) len cs ss pc lv st G = gn len 2 (g1i st fun x r => k < nL ∧ K cs ss (pc + 2) (ls1 k (.int x) lv) r G) := rfl
theorem gx_lstore_n_0 {o nL : Nat} {ini : Bool} {ct : List (Nat × gC)} {RET : Nat → Nat → Nat → List Value → gS → Prop} {Rc Rs : Nat} {K : gP} {len cs ss pc : Nat} {lv : List (Option Value)} {st : List Value} {G : gS} : gx o nL ini ct RET Rc Rs K (.lstore_n 0) len cs ss pc lv st G = gn len 1 (g1l st fun x r => 0 + 1 < nL ∧ K cs ss (pc + 1) (ls2 0 (.long x) lv) r G) := rfl
theorem gx_lstore_n_1 {o nL : Nat} {ini : Bool} {ct : List (Nat × gC)} {RET : Nat → Nat → Nat → List Value → gS → Prop} {Rc Rs : Nat} {K : gP} {len cs ss pc : Nat} {lv : List (Option Value)} {st : List Value} {G : gS} : gx o nL ini ct RET Rc Rs K (.lstore_n 1) len cs ss pc lv st G = gn len 1 (g1l st fun x r => 1 + 1 < nL ∧ K cs ss (pc + 1) (ls2 1 (.long x) lv) r G) := rfl
theorem gx_lstore_n_2 {o nL : Nat} {ini : Bool} {ct : List (Nat × gC)} {RET : Nat → Nat → Nat → List Value → gS → Prop} {Rc Rs : Nat} {K : gP} {len cs ss pc : Nat} {lv : List (Option Value)} {st : List Value} {G : gS} : gx o nL ini ct RET Rc Rs K (.lstore_n 2) len cs ss pc lv st G = gn len 1 (g1l st fun x r => 2 + 1 < nL ∧ K cs ss (pc + 1) (ls2 2 (.long x) lv) r G) := rfl
theorem gx_lstore_n_3 {o nL : Nat} {ini : Bool} {ct : List (Nat × gC)} {RET : Nat → Nat → Nat → List Value → gS → Prop} {Rc Rs : Nat} {K : gP} {len cs ss pc : Nat} {lv : List (Option Value)} {st : List Value} {G : gS} : gx o nL ini ct RET Rc Rs K (.lstore_n 3) len cs ss pc lv st G = gn len 1 (g1l st fun x r => 3 + 1 < nL ∧ K cs ss (pc + 1) (ls2 3 (.long x) lv) r G) := rfl
theorem gx_lstore {o nL : Nat} {ini : Bool} {ct : List (Nat × gC)} {RET : Nat → Nat → Nat → List Value → gS → Prop} {Rc Rs : Nat} {K : gP} {len cs ss pc : Nat} {lv : List (Option Value)} {st : List Value} {G : gS} {k : Nat} : gx o nL ini ct RET Rc Rs K (.lstore k) len cs ss pc lv st G = gn len 2 (g1l st fun x r => k + 1 < nL ∧ K cs ss (pc + 2) (ls2 k (.long x) lv) r G) := rfl
theorem gx_astore_n_0 {o nL : Nat} {ini : Bool} {ct : List (Nat × gC)} {RET : Nat → Nat → Nat → List Value → gS → Prop} {Rc Rs : Nat} {K : gP} {len cs ss pc : Nat} {lv : List (Option Value)} {st : List Value} {G : gS} : gx o nL ini ct RET Rc Rs K (.astore_n 0) len cs ss pc lv st G = gn len 1 (g1q st fun x r => 0 < nL ∧ K cs ss (pc + 1) (ls1 0 x lv) r G) := rfl
theorem gx_astore_n_1 {o nL : Nat} {ini : Bool} {ct : List (Nat × gC)} {RET : Nat → Nat → Nat → List Value → gS → Prop} {Rc Rs : Nat} {K : gP} {len cs ss pc : Nat} {lv : List (Option Value)} {st : List Value} {G : gS} : gx o nL ini ct RET Rc Rs K (.astore_n 1) len cs ss pc lv st G = gn len 1 (g1q st fun x r => 1 < nL ∧ K cs ss (pc + 1) (ls1 1 x lv) r G) := rfl
theorem gx_astore_n_2 {o nL : Nat} {ini : Bool} {ct : List (Nat × gC)} {RET : Nat → Nat → Nat → List Value → gS → Prop} {Rc Rs : Nat} {K : gP} {len cs ss pc : Nat} {lv : List (Option Value)} {st : List Value} {G : gS} : gx o nL ini ct RET Rc Rs K (.astore_n 2) len cs ss pc lv st G = gn len 1 (g1q st fun x r => 2 < nL ∧ K cs ss (pc + 1) (ls1 2 x lv) r G) := rfl
theorem gx_astore_n_3 {o nL : Nat} {ini : Bool} {ct : List (Nat × gC)} {RET : Nat → Nat → Nat → List Value → gS → Prop} {Rc Rs : Nat} {K : gP} {len cs ss pc : Nat} {lv : List (Option Value)} {st : List Value} {G : gS} : gx o nL ini ct RET Rc Rs K (.astore_n 3) len cs ss pc lv st G = gn len 1 (g1q st fun x r => 3 < nL ∧ K cs ss (pc + 1) (ls1 3 x lv) r G) := rfl
theorem gx_astore {o nL : Nat} {ini : Bool} {ct : List (Nat × gC)} {RET : Nat → Nat → Nat → List Value → gS → Prop} {Rc Rs : Nat} {K : gP} {len cs ss pc : Nat} {lv : List (Option Value)} {st : List Value} {G : gS} {k : Nat} : gx o nL ini ct RET Rc Rs K (.astore k) len cs ss pc lv st G = gn len 2 (g1q st fun x r => k < nL ∧ K cs ss (pc + 2) (ls1 k x lv) r G) := rfl
theorem gx_iinc_m1 {o nL : Nat} {ini : Bool} {ct : List (Nat × gC)} {RET : Nat → Nat → Nat → List Value → gS → Prop} {Rc Rs : Nat} {K : gP} {len cs ss pc : Nat} {lv : List (Option Value)} {st : List Value} {G : gS} {k : Nat} : gx o nL ini ct RET Rc Rs K (.iinc k (-1)) len cs ss pc lv st G = gn len 3 (goi (lg k lv) fun x => k < nL ∧ K cs ss (pc + 3) (ls1 k (.int (x + (-1))) lv) st G) := by
  show gn len 3 (goi (lg k lv) fun x => k < nL ∧ K cs ss (pc + 3) (ls1 k (.int (x + Int32.ofInt (-1))) lv) st G) = _
  rw [show Int32.ofInt (-1) = ((-1) : Int32) from by decide]
theorem gx_iinc_1 {o nL : Nat} {ini : Bool} {ct : List (Nat × gC)} {RET : Nat → Nat → Nat → List Value → gS → Prop} {Rc Rs : Nat} {K : gP} {len cs ss pc : Nat} {lv : List (Option Value)} {st : List Value} {G : gS} {k : Nat} : gx o nL ini ct RET Rc Rs K (.iinc k 1) len cs ss pc lv st G = gn len 3 (goi (lg k lv) fun x => k < nL ∧ K cs ss (pc + 3) (ls1 k (.int (x + 1)) lv) st G) := by
  show gn len 3 (goi (lg k lv) fun x => k < nL ∧ K cs ss (pc + 3) (ls1 k (.int (x + Int32.ofInt 1)) lv) st G) = _
  rw [show Int32.ofInt 1 = (1 : Int32) from by decide]
theorem gx_iinc_7 {o nL : Nat} {ini : Bool} {ct : List (Nat × gC)} {RET : Nat → Nat → Nat → List Value → gS → Prop} {Rc Rs : Nat} {K : gP} {len cs ss pc : Nat} {lv : List (Option Value)} {st : List Value} {G : gS} {k : Nat} : gx o nL ini ct RET Rc Rs K (.iinc k 7) len cs ss pc lv st G = gn len 3 (goi (lg k lv) fun x => k < nL ∧ K cs ss (pc + 3) (ls1 k (.int (x + 7)) lv) st G) := by
  show gn len 3 (goi (lg k lv) fun x => k < nL ∧ K cs ss (pc + 3) (ls1 k (.int (x + Int32.ofInt 7)) lv) st G) = _
  rw [show Int32.ofInt 7 = (7 : Int32) from by decide]
theorem gx_iadd {o nL : Nat} {ini : Bool} {ct : List (Nat × gC)} {RET : Nat → Nat → Nat → List Value → gS → Prop} {Rc Rs : Nat} {K : gP} {len cs ss pc : Nat} {lv : List (Option Value)} {st : List Value} {G : gS}  : gx o nL ini ct RET Rc Rs K (.iadd) len cs ss pc lv st G = gn len 1 (g2i st fun x y r => K cs ss (pc + 1) lv (.int (x + y) :: r) G) := rfl
theorem gx_isub {o nL : Nat} {ini : Bool} {ct : List (Nat × gC)} {RET : Nat → Nat → Nat → List Value → gS → Prop} {Rc Rs : Nat} {K : gP} {len cs ss pc : Nat} {lv : List (Option Value)} {st : List Value} {G : gS}  : gx o nL ini ct RET Rc Rs K (.isub) len cs ss pc lv st G = gn len 1 (g2i st fun x y r => K cs ss (pc + 1) lv (.int (x - y) :: r) G) := rfl
theorem gx_imul {o nL : Nat} {ini : Bool} {ct : List (Nat × gC)} {RET : Nat → Nat → Nat → List Value → gS → Prop} {Rc Rs : Nat} {K : gP} {len cs ss pc : Nat} {lv : List (Option Value)} {st : List Value} {G : gS}  : gx o nL ini ct RET Rc Rs K (.imul) len cs ss pc lv st G = gn len 1 (g2i st fun x y r => K cs ss (pc + 1) lv (.int (x * y) :: r) G) := rfl
theorem gx_iand {o nL : Nat} {ini : Bool} {ct : List (Nat × gC)} {RET : Nat → Nat → Nat → List Value → gS → Prop} {Rc Rs : Nat} {K : gP} {len cs ss pc : Nat} {lv : List (Option Value)} {st : List Value} {G : gS}  : gx o nL ini ct RET Rc Rs K (.iand) len cs ss pc lv st G = gn len 1 (g2i st fun x y r => K cs ss (pc + 1) lv (.int (x &&& y) :: r) G) := rfl
theorem gx_idiv {o nL : Nat} {ini : Bool} {ct : List (Nat × gC)} {RET : Nat → Nat → Nat → List Value → gS → Prop} {Rc Rs : Nat} {K : gP} {len cs ss pc : Nat} {lv : List (Option Value)} {st : List Value} {G : gS}  : gx o nL ini ct RET Rc Rs K (.idiv) len cs ss pc lv st G = gn len 1 (g2i st fun x y r => ¬ y = 0 ∧ K cs ss (pc + 1) lv (.int (x / y) :: r) G) := rfl
theorem gx_ladd {o nL : Nat} {ini : Bool} {ct : List (Nat × gC)} {RET : Nat → Nat → Nat → List Value → gS → Prop} {Rc Rs : Nat} {K : gP} {len cs ss pc : Nat} {lv : List (Option Value)} {st : List Value} {G : gS}  : gx o nL ini ct RET Rc Rs K (.ladd) len cs ss pc lv st G = gn len 1 (g2l st fun x y r => K cs ss (pc + 1) lv (.long (x + y) :: r) G) := rfl
theorem gx_lsub {o nL : Nat} {ini : Bool} {ct : List (Nat × gC)} {RET : Nat → Nat → Nat → List Value → gS → Prop} {Rc Rs : Nat} {K : gP} {len cs ss pc : Nat} {lv : List (Option Value)} {st : List Value} {G : gS}  : gx o nL ini ct RET Rc Rs K (.lsub) len cs ss pc lv st G = gn len 1 (g2l st fun x y r => K cs ss (pc + 1) lv (.long (x - y) :: r) G) := rfl
theorem gx_lmul {o nL : Nat} {ini : Bool} {ct : List (Nat × gC)} {RET : Nat → Nat → Nat → List Value → gS → Prop} {Rc Rs : Nat} {K : gP} {len cs ss pc : Nat} {lv : List (Option Value)} {st : List Value} {G : gS}  : gx o nL ini ct RET Rc Rs K (.lmul) len cs ss pc lv st G = gn len 1 (g2l st fun x y r => K cs ss (pc + 1) lv (.long (x * y) :: r) G) := rfl
theorem gx_land {o nL : Nat} {ini : Bool} {ct : List (Nat × gC)} {RET : Nat → Nat → Nat → List Value → gS → Prop} {Rc Rs : Nat} {K : gP} {len cs ss pc : Nat} {lv : List (Option Value)} {st : List Value} {G : gS}  : gx o nL ini ct RET Rc Rs K (.land) len cs ss pc lv st G = gn len 1 (g2l st fun x y r => K cs ss (pc + 1) lv (.long (x &&& y) :: r) G) := rfl
theorem gx_lor {o nL : Nat} {ini : Bool} {ct : List (Nat × gC)} {RET : Nat → Nat → Nat → List Value → gS → Prop} {Rc Rs : Nat} {K : gP} {len cs ss pc : Nat} {lv : List (Option Value)} {st : List Value} {G : gS}  : gx o nL ini ct RET Rc Rs K (.lor) len cs ss pc lv st G = gn len 1 (g2l st fun x y r => K cs ss (pc + 1) lv (.long (x ||| y) :: r) G) := rfl
theorem gx_ldiv {o nL : Nat} {ini : Bool} {ct : List (Nat × gC)} {RET : Nat → Nat → Nat → List Value → gS → Prop} {Rc Rs : Nat} {K : gP} {len cs ss pc : Nat} {lv : List (Option Value)} {st : List Value} {G : gS}  : gx o nL ini ct RET Rc Rs K (.ldiv) len cs ss pc lv st G = gn len 1 (g2l st fun x y r => ¬ y = 0 ∧ K cs ss (pc + 1) lv (.long (x / y) :: r) G) := rfl
theorem gx_lshl {o nL : Nat} {ini : Bool} {ct : List (Nat × gC)} {RET : Nat → Nat → Nat → List Value → gS → Prop} {Rc Rs : Nat} {K : gP} {len cs ss pc : Nat} {lv : List (Option Value)} {st : List Value} {G : gS}  : gx o nL ini ct RET Rc Rs K (.lshl) len cs ss pc lv st G = gn len 1 (gil st fun x y r => K cs ss (pc + 1) lv (.long (x <<< (y.toInt64 &&& 63)) :: r) G) := rfl
theorem gx_lcmp {o nL : Nat} {ini : Bool} {ct : List (Nat × gC)} {RET : Nat → Nat → Nat → List Value → gS → Prop} {Rc Rs : Nat} {K : gP} {len cs ss pc : Nat} {lv : List (Option Value)} {st : List Value} {G : gS}  : gx o nL ini ct RET Rc Rs K (.lcmp) len cs ss pc lv st G = gn len 1 (g2l st fun x y r => K cs ss (pc + 1) lv (.int (lg_cmp x y) :: r) G) := rfl
theorem gx_i2l {o nL : Nat} {ini : Bool} {ct : List (Nat × gC)} {RET : Nat → Nat → Nat → List Value → gS → Prop} {Rc Rs : Nat} {K : gP} {len cs ss pc : Nat} {lv : List (Option Value)} {st : List Value} {G : gS}  : gx o nL ini ct RET Rc Rs K (.i2l) len cs ss pc lv st G = gn len 1 (g1i st fun x r => K cs ss (pc + 1) lv (.long x.toInt64 :: r) G) := rfl
theorem gx_i2b {o nL : Nat} {ini : Bool} {ct : List (Nat × gC)} {RET : Nat → Nat → Nat → List Value → gS → Prop} {Rc Rs : Nat} {K : gP} {len cs ss pc : Nat} {lv : List (Option Value)} {st : List Value} {G : gS}  : gx o nL ini ct RET Rc Rs K (.i2b) len cs ss pc lv st G = gn len 1 (g1i st fun x r => K cs ss (pc + 1) lv (.int x.toInt8.toInt32 :: r) G) := rfl
theorem gx_l2i {o nL : Nat} {ini : Bool} {ct : List (Nat × gC)} {RET : Nat → Nat → Nat → List Value → gS → Prop} {Rc Rs : Nat} {K : gP} {len cs ss pc : Nat} {lv : List (Option Value)} {st : List Value} {G : gS}  : gx o nL ini ct RET Rc Rs K (.l2i) len cs ss pc lv st G = gn len 1 (g1l st fun x r => K cs ss (pc + 1) lv (.int x.toInt32 :: r) G) := rfl
theorem gx_dup {o nL : Nat} {ini : Bool} {ct : List (Nat × gC)} {RET : Nat → Nat → Nat → List Value → gS → Prop} {Rc Rs : Nat} {K : gP} {len cs ss pc : Nat} {lv : List (Option Value)} {st : List Value} {G : gS}  : gx o nL ini ct RET Rc Rs K (.dup) len cs ss pc lv st G = gn len 1 (gdup st fun r => K cs ss (pc + 1) lv r G) := rfl
theorem gx_dup2 {o nL : Nat} {ini : Bool} {ct : List (Nat × gC)} {RET : Nat → Nat → Nat → List Value → gS → Prop} {Rc Rs : Nat} {K : gP} {len cs ss pc : Nat} {lv : List (Option Value)} {st : List Value} {G : gS}  : gx o nL ini ct RET Rc Rs K (.dup2) len cs ss pc lv st G = gn len 1 (gdup2 st fun r => K cs ss (pc + 1) lv r G) := rfl
theorem gx_ifCond_eq {o nL : Nat} {ini : Bool} {ct : List (Nat × gC)} {RET : Nat → Nat → Nat → List Value → gS → Prop} {Rc Rs : Nat} {K : gP} {len cs ss pc : Nat} {lv : List (Option Value)} {st : List Value} {G : gS} {off : Int} : gx o nL ini ct RET Rc Rs K (.ifCond .eq off) len cs ss pc lv st G = gn len 3 (g1i st fun x r => gtg pc off fun t => gbr (x = 0) (K cs ss t lv r G) (K cs ss (pc + 3) lv r G)) := rfl
theorem gx_ifCond_ne {o nL : Nat} {ini : Bool} {ct : List (Nat × gC)} {RET : Nat → Nat → Nat → List Value → gS → Prop} {Rc Rs : Nat} {K : gP} {len cs ss pc : Nat} {lv : List (Option Value)} {st : List Value} {G : gS} {off : Int} : gx o nL ini ct RET Rc Rs K (.ifCond .ne off) len cs ss pc lv st G = gn len 3 (g1i st fun x r => gtg pc off fun t => gbr (x = 0) (K cs ss (pc + 3) lv r G) (K cs ss t lv r G)) := rfl
theorem gx_ifCond_lt {o nL : Nat} {ini : Bool} {ct : List (Nat × gC)} {RET : Nat → Nat → Nat → List Value → gS → Prop} {Rc Rs : Nat} {K : gP} {len cs ss pc : Nat} {lv : List (Option Value)} {st : List Value} {G : gS} {off : Int} : gx o nL ini ct RET Rc Rs K (.ifCond .lt off) len cs ss pc lv st G = gn len 3 (g1i st fun x r => gtg pc off fun t => gbr (x < 0) (K cs ss t lv r G) (K cs ss (pc + 3) lv r G)) := rfl
theorem gx_ifCond_ge {o nL : Nat} {ini : Bool} {ct : List (Nat × gC)} {RET : Nat → Nat → Nat → List Value → gS → Prop} {Rc Rs : Nat} {K : gP} {len cs ss pc : Nat} {lv : List (Option Value)} {st : List Value} {G : gS} {off : Int} : gx o nL ini ct RET Rc Rs K (.ifCond .ge off) len cs ss pc lv st G = gn len 3 (g1i st fun x r => gtg pc off fun t => gbr (0 ≤ x) (K cs ss t lv r G) (K cs ss (pc + 3) lv r G)) := rfl
theorem gx_ifCond_gt {o nL : Nat} {ini : Bool} {ct : List (Nat × gC)} {RET : Nat → Nat → Nat → List Value → gS → Prop} {Rc Rs : Nat} {K : gP} {len cs ss pc : Nat} {lv : List (Option Value)} {st : List Value} {G : gS} {off : Int} : gx o nL ini ct RET Rc Rs K (.ifCond .gt off) len cs ss pc lv st G = gn len 3 (g1i st fun x r => gtg pc off fun t => gbr (0 < x) (K cs ss t lv r G) (K cs ss (pc + 3) lv r G)) := rfl
theorem gx_ifCond_le {o nL : Nat} {ini : Bool} {ct : List (Nat × gC)} {RET : Nat → Nat → Nat → List Value → gS → Prop} {Rc Rs : Nat} {K : gP} {len cs ss pc : Nat} {lv : List (Option Value)} {st : List Value} {G : gS} {off : Int} : gx o nL ini ct RET Rc Rs K (.ifCond .le off) len cs ss pc lv st G = gn len 3 (g1i st fun x r => gtg pc off fun t => gbr (x ≤ 0) (K cs ss t lv r G) (K cs ss (pc + 3) lv r G)) := rfl
theorem gx_if_icmp_eq {o nL : Nat} {ini : Bool} {ct : List (Nat × gC)} {RET : Nat → Nat → Nat → List Value → gS → Prop} {Rc Rs : Nat} {K : gP} {len cs ss pc : Nat} {lv : List (Option Value)} {st : List Value} {G : gS} {off : Int} : gx o nL ini ct RET Rc Rs K (.if_icmp .eq off) len cs ss pc lv st G = gn len 3 (g2i st fun x y r => gtg pc off fun t => gbr (x = y) (K cs ss t lv r G) (K cs ss (pc + 3) lv r G)) := rfl
theorem gx_if_icmp_ne {o nL : Nat} {ini : Bool} {ct : List (Nat × gC)} {RET : Nat → Nat → Nat → List Value → gS → Prop} {Rc Rs : Nat} {K : gP} {len cs ss pc : Nat} {lv : List (Option Value)} {st : List Value} {G : gS} {off : Int} : gx o nL ini ct RET Rc Rs K (.if_icmp .ne off) len cs ss pc lv st G = gn len 3 (g2i st fun x y r => gtg pc off fun t => gbr (x = y) (K cs ss (pc + 3) lv r G) (K cs ss t lv r G)) := rfl
theorem gx_if_icmp_lt {o nL : Nat} {ini : Bool} {ct : List (Nat × gC)} {RET : Nat → Nat → Nat → List Value → gS → Prop} {Rc Rs : Nat} {K : gP} {len cs ss pc : Nat} {lv : List (Option Value)} {st : List Value} {G : gS} {off : Int} : gx o nL ini ct RET Rc Rs K (.if_icmp .lt off) len cs ss pc lv st G = gn len 3 (g2i st fun x y r => gtg pc off fun t => gbr (x < y) (K cs ss t lv r G) (K cs ss (pc + 3) lv r G)) := rfl
theorem gx_if_icmp_ge {o nL : Nat} {ini : Bool} {ct : List (Nat × gC)} {RET : Nat → Nat → Nat → List Value → gS → Prop} {Rc Rs : Nat} {K : gP} {len cs ss pc : Nat} {lv : List (Option Value)} {st : List Value} {G : gS} {off : Int} : gx o nL ini ct RET Rc Rs K (.if_icmp .ge off) len cs ss pc lv st G = gn len 3 (g2i st fun x y r => gtg pc off fun t => gbr (y ≤ x) (K cs ss t lv r G) (K cs ss (pc + 3) lv r G)) := rfl
theorem gx_if_icmp_gt {o nL : Nat} {ini : Bool} {ct : List (Nat × gC)} {RET : Nat → Nat → Nat → List Value → gS → Prop} {Rc Rs : Nat} {K : gP} {len cs ss pc : Nat} {lv : List (Option Value)} {st : List Value} {G : gS} {off : Int} : gx o nL ini ct RET Rc Rs K (.if_icmp .gt off) len cs ss pc lv st G = gn len 3 (g2i st fun x y r => gtg pc off fun t => gbr (y < x) (K cs ss t lv r G) (K cs ss (pc + 3) lv r G)) := rfl
theorem gx_if_icmp_le {o nL : Nat} {ini : Bool} {ct : List (Nat × gC)} {RET : Nat → Nat → Nat → List Value → gS → Prop} {Rc Rs : Nat} {K : gP} {len cs ss pc : Nat} {lv : List (Option Value)} {st : List Value} {G : gS} {off : Int} : gx o nL ini ct RET Rc Rs K (.if_icmp .le off) len cs ss pc lv st G = gn len 3 (g2i st fun x y r => gtg pc off fun t => gbr (x ≤ y) (K cs ss t lv r G) (K cs ss (pc + 3) lv r G)) := rfl
theorem gx_if_acmp_ne {o nL : Nat} {ini : Bool} {ct : List (Nat × gC)} {RET : Nat → Nat → Nat → List Value → gS → Prop} {Rc Rs : Nat} {K : gP} {len cs ss pc : Nat} {lv : List (Option Value)} {st : List Value} {G : gS} {off : Int} : gx o nL ini ct RET Rc Rs K (.if_acmp .ne off) len cs ss pc lv st G = gn len 3 (goq st fun y r => goq r fun x r => gtg pc off fun t => gbr (x = y) (K cs ss (pc + 3) lv r G) (K cs ss t lv r G)) := rfl
theorem gx_ifnull {o nL : Nat} {ini : Bool} {ct : List (Nat × gC)} {RET : Nat → Nat → Nat → List Value → gS → Prop} {Rc Rs : Nat} {K : gP} {len cs ss pc : Nat} {lv : List (Option Value)} {st : List Value} {G : gS} {off : Int} : gx o nL ini ct RET Rc Rs K (.ifnull off) len cs ss pc lv st G = gn len 3 (g1r st fun _ r => K cs ss (pc + 3) lv r G) := rfl
theorem gx_goto {o nL : Nat} {ini : Bool} {ct : List (Nat × gC)} {RET : Nat → Nat → Nat → List Value → gS → Prop} {Rc Rs : Nat} {K : gP} {len cs ss pc : Nat} {lv : List (Option Value)} {st : List Value} {G : gS} {off : Int} : gx o nL ini ct RET Rc Rs K (.goto off) len cs ss pc lv st G = gn len 3 (gtg pc off fun t => K cs ss t lv st G) := rfl
theorem gx_tableswitch {o nL : Nat} {ini : Bool} {ct : List (Nat × gC)} {RET : Nat → Nat → Nat → List Value → gS → Prop} {Rc Rs : Nat} {K : gP} {len cs ss pc : Nat} {lv : List (Option Value)} {st : List Value} {G : gS} {d : Int} {lo : Int} {hi : Int} {offs : Array Int} : gx o nL ini ct RET Rc Rs K (.tableswitch d lo hi offs) len cs ss pc lv st G = g1i st fun x r => hi + 1 = lo + offs.size ∧ gtab x (fun off => gtg pc off fun t => K cs ss t lv r G) d lo offs.toList := rfl
theorem gx_lookupswitch {o nL : Nat} {ini : Bool} {ct : List (Nat × gC)} {RET : Nat → Nat → Nat → List Value → gS → Prop} {Rc Rs : Nat} {K : gP} {len cs ss pc : Nat} {lv : List (Option Value)} {st : List Value} {G : gS} {d : Int} {ps : Array (Int × Int)} : gx o nL ini ct RET Rc Rs K (.lookupswitch d ps) len cs ss pc lv st G = g1i st fun x r => (ps.toList.zip (ps.toList.drop 1)).all (fun (a, next) => a.1 < next.1) = true ∧ glkp x (fun off => gtg pc off fun t => K cs ss t lv r G) d ps.toList := rfl
theorem gx_getfield {o nL : Nat} {ini : Bool} {ct : List (Nat × gC)} {RET : Nat → Nat → Nat → List Value → gS → Prop} {Rc Rs : Nat} {K : gP} {len cs ss pc : Nat} {lv : List (Option Value)} {st : List Value} {G : gS} {ix : Nat} : gx o nL ini ct RET Rc Rs K (.getfield ix) len cs ss pc lv st G = gn len 3 (g1r st fun a r => match gFL o ix with | some (x, k, _) => gsh G a = (1, x, 0) ∧ K cs ss (pc + 3) lv (fval (cty x k) (gi G a k) (gl G a k) (gr G a k) :: r) G | none => False) := rfl
theorem gx_putfield {o nL : Nat} {ini : Bool} {ct : List (Nat × gC)} {RET : Nat → Nat → Nat → List Value → gS → Prop} {Rc Rs : Nat} {K : gP} {len cs ss pc : Nat} {lv : List (Option Value)} {st : List Value} {G : gS} {ix : Nat} : gx o nL ini ct RET Rc Rs K (.putfield ix) len cs ss pc lv st G = gn len 3 (gvr st fun v a r => match gFL o ix with | some (x, k, u) => gsh G a = (1, x, 0) ∧ (u = 0 ∨ (u = 1 ∧ ini = true)) ∧ gpv (cty x k) v G a k (fun G' => K cs ss (pc + 3) lv r G') | none => False) := rfl
theorem gx_iaload {o nL : Nat} {ini : Bool} {ct : List (Nat × gC)} {RET : Nat → Nat → Nat → List Value → gS → Prop} {Rc Rs : Nat} {K : gP} {len cs ss pc : Nat} {lv : List (Option Value)} {st : List Value} {G : gS}  : gx o nL ini ct RET Rc Rs K (.iaload) len cs ss pc lv st G = gn len 1 (gir st fun j a r => (gsh G a).1 = 2 ∧ (gsh G a).2.1 = 0 ∧ vp_in j (gsh G a).2.2 ∧ K cs ss (pc + 1) lv (.int (gi G a j.toNatClampNeg) :: r) G) := rfl
theorem gx_baload {o nL : Nat} {ini : Bool} {ct : List (Nat × gC)} {RET : Nat → Nat → Nat → List Value → gS → Prop} {Rc Rs : Nat} {K : gP} {len cs ss pc : Nat} {lv : List (Option Value)} {st : List Value} {G : gS}  : gx o nL ini ct RET Rc Rs K (.baload) len cs ss pc lv st G = gn len 1 (gir st fun j a r => (gsh G a).1 = 2 ∧ (gsh G a).2.1 = 2 ∧ vp_in j (gsh G a).2.2 ∧ K cs ss (pc + 1) lv (.int (gi G a j.toNatClampNeg) :: r) G) := rfl
theorem gx_laload {o nL : Nat} {ini : Bool} {ct : List (Nat × gC)} {RET : Nat → Nat → Nat → List Value → gS → Prop} {Rc Rs : Nat} {K : gP} {len cs ss pc : Nat} {lv : List (Option Value)} {st : List Value} {G : gS}  : gx o nL ini ct RET Rc Rs K (.laload) len cs ss pc lv st G = gn len 1 (gir st fun j a r => (gsh G a).1 = 2 ∧ (gsh G a).2.1 = 1 ∧ vp_in j (gsh G a).2.2 ∧ K cs ss (pc + 1) lv (.long (gl G a j.toNatClampNeg) :: r) G) := rfl
theorem gx_aaload {o nL : Nat} {ini : Bool} {ct : List (Nat × gC)} {RET : Nat → Nat → Nat → List Value → gS → Prop} {Rc Rs : Nat} {K : gP} {len cs ss pc : Nat} {lv : List (Option Value)} {st : List Value} {G : gS}  : gx o nL ini ct RET Rc Rs K (.aaload) len cs ss pc lv st G = gn len 1 (gir st fun j a r => (gsh G a).1 = 2 ∧ (3 ≤ (gsh G a).2.1 ∧ (gsh G a).2.1 < 6) ∧ vp_in j (gsh G a).2.2 ∧ K cs ss (pc + 1) lv (va_rf (gr G a j.toNatClampNeg) :: r) G) := rfl
theorem gx_iastore {o nL : Nat} {ini : Bool} {ct : List (Nat × gC)} {RET : Nat → Nat → Nat → List Value → gS → Prop} {Rc Rs : Nat} {K : gP} {len cs ss pc : Nat} {lv : List (Option Value)} {st : List Value} {G : gS}  : gx o nL ini ct RET Rc Rs K (.iastore) len cs ss pc lv st G = gn len 1 (giir st fun x j a r => (gsh G a).1 = 2 ∧ (gsh G a).2.1 = 0 ∧ vp_in j (gsh G a).2.2 ∧ K cs ss (pc + 1) lv r (si G a j.toNatClampNeg x)) := rfl
theorem gx_bastore {o nL : Nat} {ini : Bool} {ct : List (Nat × gC)} {RET : Nat → Nat → Nat → List Value → gS → Prop} {Rc Rs : Nat} {K : gP} {len cs ss pc : Nat} {lv : List (Option Value)} {st : List Value} {G : gS}  : gx o nL ini ct RET Rc Rs K (.bastore) len cs ss pc lv st G = gn len 1 (giir st fun x j a r => (gsh G a).1 = 2 ∧ (gsh G a).2.1 = 2 ∧ vp_in j (gsh G a).2.2 ∧ (x = 0 ∨ x = 1) ∧ K cs ss (pc + 1) lv r (si G a j.toNatClampNeg x)) := rfl
theorem gx_lastore {o nL : Nat} {ini : Bool} {ct : List (Nat × gC)} {RET : Nat → Nat → Nat → List Value → gS → Prop} {Rc Rs : Nat} {K : gP} {len cs ss pc : Nat} {lv : List (Option Value)} {st : List Value} {G : gS}  : gx o nL ini ct RET Rc Rs K (.lastore) len cs ss pc lv st G = gn len 1 (glir st fun x j a r => (gsh G a).1 = 2 ∧ (gsh G a).2.1 = 1 ∧ vp_in j (gsh G a).2.2 ∧ K cs ss (pc + 1) lv r (sl G a j.toNatClampNeg x)) := rfl
theorem gx_aastore {o nL : Nat} {ini : Bool} {ct : List (Nat × gC)} {RET : Nat → Nat → Nat → List Value → gS → Prop} {Rc Rs : Nat} {K : gP} {len cs ss pc : Nat} {lv : List (Option Value)} {st : List Value} {G : gS}  : gx o nL ini ct RET Rc Rs K (.aastore) len cs ss pc lv st G = gn len 1 (gqir st fun b j a r => (gsh G a).1 = 2 ∧ (3 ≤ (gsh G a).2.1 ∧ (gsh G a).2.1 < 6) ∧ vp_in j (gsh G a).2.2 ∧ (∀ q, b = some q → gsh G q = (1, gelx (gsh G a).2.1, 0)) ∧ K cs ss (pc + 1) lv r (sr G a j.toNatClampNeg b)) := rfl
theorem gx_arraylength {o nL : Nat} {ini : Bool} {ct : List (Nat × gC)} {RET : Nat → Nat → Nat → List Value → gS → Prop} {Rc Rs : Nat} {K : gP} {len cs ss pc : Nat} {lv : List (Option Value)} {st : List Value} {G : gS}  : gx o nL ini ct RET Rc Rs K (.arraylength) len cs ss pc lv st G = gn len 1 (g1r st fun a r => (gsh G a).1 = 2 ∧ (gsh G a).2.1 < 6 ∧ K cs ss (pc + 1) lv (.int (Int32.ofNat (gsh G a).2.2) :: r) G) := rfl
theorem gx_newarray {o nL : Nat} {ini : Bool} {ct : List (Nat × gC)} {RET : Nat → Nat → Nat → List Value → gS → Prop} {Rc Rs : Nat} {K : gP} {len cs ss pc : Nat} {lv : List (Option Value)} {st : List Value} {G : gS} {t : ArrayType} : gx o nL ini ct RET Rc Rs K (.newarray t) len cs ss pc lv st G = gn len 2 (g1i st fun n r => match gatt t with | some x => ¬ n < 0 ∧ n.toNatClampNeg ≤ 10000 ∧ cs + 1 ≤ Rc ∧ ss + n.toNatClampNeg ≤ Rs ∧ K (cs + 1) (ss + n.toNatClampNeg) (pc + 2) lv (.ref (gsz G) :: r) (gnw G (2, x, n.toNatClampNeg)) | none => False) := rfl
theorem gx_anewarray {o nL : Nat} {ini : Bool} {ct : List (Nat × gC)} {RET : Nat → Nat → Nat → List Value → gS → Prop} {Rc Rs : Nat} {K : gP} {len cs ss pc : Nat} {lv : List (Option Value)} {st : List Value} {G : gS} {ix : Nat} : gx o nL ini ct RET Rc Rs K (.anewarray ix) len cs ss pc lv st G = gn len 3 (g1i st fun n r => match gCL o ix with | some x => (x = 0 ∨ x = 2 ∨ x = 3) ∧ ¬ n < 0 ∧ n.toNatClampNeg ≤ 10000 ∧ cs + 1 ≤ Rc ∧ ss + n.toNatClampNeg ≤ Rs ∧ K (cs + 1) (ss + n.toNatClampNeg) (pc + 3) lv (.ref (gsz G) :: r) (gnw G (2, gxe x, n.toNatClampNeg)) | none => False) := rfl
theorem gx_new {o nL : Nat} {ini : Bool} {ct : List (Nat × gC)} {RET : Nat → Nat → Nat → List Value → gS → Prop} {Rc Rs : Nat} {K : gP} {len cs ss pc : Nat} {lv : List (Option Value)} {st : List Value} {G : gS} {ix : Nat} : gx o nL ini ct RET Rc Rs K (.new ix) len cs ss pc lv st G = gn len 3 (match gCL o ix with | some x => cs + 1 ≤ Rc ∧ ss + gcn x ≤ Rs ∧ K (cs + 1) (ss + gcn x) (pc + 3) lv (.ref (gsz G) :: st) (gnw G (1, x, 0)) | none => False) := rfl
theorem gx_invokevirtual {o nL : Nat} {ini : Bool} {ct : List (Nat × gC)} {RET : Nat → Nat → Nat → List Value → gS → Prop} {Rc Rs : Nat} {K : gP} {len cs ss pc : Nat} {lv : List (Option Value)} {st : List Value} {G : gS} {ix : Nat} : gx o nL ini ct RET Rc Rs K (.invokevirtual ix) len cs ss pc lv st G = gn len 3 (ix < 100000 ∧ gcall ct ix cs ss Rc Rs st G fun cs' ss' st' G' => K cs' ss' (pc + 3) lv st' G') := rfl
theorem gx_invokestatic {o nL : Nat} {ini : Bool} {ct : List (Nat × gC)} {RET : Nat → Nat → Nat → List Value → gS → Prop} {Rc Rs : Nat} {K : gP} {len cs ss pc : Nat} {lv : List (Option Value)} {st : List Value} {G : gS} {ix : Nat} : gx o nL ini ct RET Rc Rs K (.invokestatic ix) len cs ss pc lv st G = gn len 3 (ix < 100000 ∧ gcall ct (100000 + ix) cs ss Rc Rs st G fun cs' ss' st' G' => K cs' ss' (pc + 3) lv st' G') := rfl
theorem gx_invokespecial {o nL : Nat} {ini : Bool} {ct : List (Nat × gC)} {RET : Nat → Nat → Nat → List Value → gS → Prop} {Rc Rs : Nat} {K : gP} {len cs ss pc : Nat} {lv : List (Option Value)} {st : List Value} {G : gS} {ix : Nat} : gx o nL ini ct RET Rc Rs K (.invokespecial ix) len cs ss pc lv st G = gn len 3 (match gOI o ix with | some _ => g1r st fun _ r => gcat r ≤ 8 ∧ K cs ss (pc + 3) lv r G | none => ix < 100000 ∧ gcall ct (200000 + ix) cs ss Rc Rs st G fun cs' ss' st' G' => K cs' ss' (pc + 3) lv st' G') := rfl
theorem gx_ireturn {o nL : Nat} {ini : Bool} {ct : List (Nat × gC)} {RET : Nat → Nat → Nat → List Value → gS → Prop} {Rc Rs : Nat} {K : gP} {len cs ss pc : Nat} {lv : List (Option Value)} {st : List Value} {G : gS}  : gx o nL ini ct RET Rc Rs K (.ireturn) len cs ss pc lv st G = gn len 1 (RET 1 cs ss st G) := rfl
theorem gx_lreturn {o nL : Nat} {ini : Bool} {ct : List (Nat × gC)} {RET : Nat → Nat → Nat → List Value → gS → Prop} {Rc Rs : Nat} {K : gP} {len cs ss pc : Nat} {lv : List (Option Value)} {st : List Value} {G : gS}  : gx o nL ini ct RET Rc Rs K (.lreturn) len cs ss pc lv st G = gn len 1 (RET 2 cs ss st G) := rfl
theorem gx_return_ {o nL : Nat} {ini : Bool} {ct : List (Nat × gC)} {RET : Nat → Nat → Nat → List Value → gS → Prop} {Rc Rs : Nat} {K : gP} {len cs ss pc : Nat} {lv : List (Option Value)} {st : List Value} {G : gS}  : gx o nL ini ct RET Rc Rs K (.return_) len cs ss pc lv st G = gn len 1 (RET 0 cs ss st G) := rfl
theorem gwp_s {cc : ByteArray} {o nL : Nat} {ini : Bool} {ct : List (Nat × gC)} {RET : Nat → Nat → Nat → List Value → gS → Prop} {Rc Rs : Nat} {cuts : List Nat} {K0 : gP} {f cs ss pc : Nat} {lv : List (Option Value)} {st : List Value} {G : gS} {i : Instr} {len : Nat} (hd : decode cc pc = .ok (i, len)) : gwp cc o nL ini ct RET Rc Rs cuts K0 (f + 1) cs ss pc lv st G = if cuts.contains pc = true then K0 cs ss pc lv st G else gx o nL ini ct RET Rc Rs (gwp cc o nL ini ct RET Rc Rs cuts K0 f) i len cs ss pc lv st G := by
  simp only [gwp, hd]
theorem gw1_s {cc : ByteArray} {o nL : Nat} {ini : Bool} {ct : List (Nat × gC)} {RET : Nat → Nat → Nat → List Value → gS → Prop} {Rc Rs : Nat} {cuts : List Nat} {K0 : gP} {f cs ss pc : Nat} {lv : List (Option Value)} {st : List Value} {G : gS} {i : Instr} {len : Nat} (hd : decode cc pc = .ok (i, len)) : gw1 cc o nL ini ct RET Rc Rs cuts K0 f cs ss pc lv st G = gx o nL ini ct RET Rc Rs (gwp cc o nL ini ct RET Rc Rs cuts K0 f) i len cs ss pc lv st G := by
  simp only [gw1, hd]
theorem gtg_eq (pc : Nat) (off : Int) (t : Nat) (h : (pc : Int) + off = (t : Int)) {k : Nat → Prop} : gtg pc off k = k t := by
  unfold gtg
  rw [h]
  simp
theorem g1i_c {x : Int32} {r : List Value} {k : Int32 → List Value → Prop} : g1i (.int x :: r) k = k x r := rfl
theorem g2i_c {x y : Int32} {r : List Value} {k : Int32 → Int32 → List Value → Prop} : g2i (.int y :: .int x :: r) k = k x y r := rfl
theorem g1l_c {x : Int64} {r : List Value} {k : Int64 → List Value → Prop} : g1l (.long x :: r) k = k x r := rfl
theorem g2l_c {x y : Int64} {r : List Value} {k : Int64 → Int64 → List Value → Prop} : g2l (.long y :: .long x :: r) k = k x y r := rfl
theorem gil_c {x : Int64} {y : Int32} {r : List Value} {k : Int64 → Int32 → List Value → Prop} : gil (.int y :: .long x :: r) k = k x y r := rfl
theorem g1r_c {a : Nat} {r : List Value} {k : Nat → List Value → Prop} : g1r (.ref a :: r) k = k a r := rfl
theorem g1q_c {a : Nat} {r : List Value} {k : Value → List Value → Prop} : g1q (.ref a :: r) k = k (.ref a) r := rfl
theorem g1q_n {r : List Value} {k : Value → List Value → Prop} : g1q (.null :: r) k = k .null r := rfl
theorem goq_c {a : Nat} {r : List Value} {k : Option Nat → List Value → Prop} : goq (.ref a :: r) k = k (some a) r := rfl
theorem gvr_c {v : Value} {a : Nat} {r : List Value} {k : Value → Nat → List Value → Prop} : gvr (v :: .ref a :: r) k = k v a r := rfl
theorem gir_c {j : Int32} {a : Nat} {r : List Value} {k : Int32 → Nat → List Value → Prop} : gir (.int j :: .ref a :: r) k = k j a r := rfl
theorem giir_c {x j : Int32} {a : Nat} {r : List Value} {k : Int32 → Int32 → Nat → List Value → Prop} : giir (.int x :: .int j :: .ref a :: r) k = k x j a r := rfl
theorem glir_c {x : Int64} {j : Int32} {a : Nat} {r : List Value} {k : Int64 → Int32 → Nat → List Value → Prop} : glir (.long x :: .int j :: .ref a :: r) k = k x j a r := rfl
theorem gqir_c {b : Nat} {j : Int32} {a : Nat} {r : List Value} {k : Option Nat → Int32 → Nat → List Value → Prop} : gqir (.ref b :: .int j :: .ref a :: r) k = k (some b) j a r := rfl
theorem gqir_n {j : Int32} {a : Nat} {r : List Value} {k : Option Nat → Int32 → Nat → List Value → Prop} : gqir (.null :: .int j :: .ref a :: r) k = k none j a r := rfl
theorem gdup_i {x : Int32} {r : List Value} {k : List Value → Prop} : gdup (.int x :: r) k = k (.int x :: .int x :: r) := rfl
theorem gdup_r {x : Nat} {r : List Value} {k : List Value → Prop} : gdup (.ref x :: r) k = k (.ref x :: .ref x :: r) := rfl
theorem gdup2_l {x : Int64} {r : List Value} {k : List Value → Prop} : gdup2 (.long x :: r) k = k (.long x :: .long x :: r) := rfl
theorem gdup2_ir {x : Int32} {y : Nat} {r : List Value} {k : List Value → Prop} : gdup2 (.int x :: .ref y :: r) k = k (.int x :: .ref y :: .int x :: .ref y :: r) := rfl
theorem gdup2_ii {x y : Int32} {r : List Value} {k : List Value → Prop} : gdup2 (.int x :: .int y :: r) k = k (.int x :: .int y :: .int x :: .int y :: r) := rfl
theorem goi_c {x : Int32} {k : Int32 → Prop} : goi (some (.int x)) k = k x := rfl
theorem gol_c {x : Int64} {k : Int64 → Prop} : gol (some (.long x)) k = k x := rfl
theorem gor_c {a : Nat} {k : Value → Prop} : gor (some (.ref a)) k = k (.ref a) := rfl
theorem gor_n {k : Value → Prop} : gor (some .null) k = k .null := rfl
theorem gpv_i {i : Int32} {G : gS} {a k : Nat} {kk : gS → Prop} : gpv .int (.int i) G a k kk = kk (si G a k i) := rfl
theorem gpv_z {i : Int32} {G : gS} {a k : Nat} {kk : gS → Prop} : gpv .boolean (.int i) G a k kk = ((i = 0 ∨ i = 1) ∧ kk (si G a k i)) := rfl
theorem gpv_l {x : Int64} {G : gS} {a k : Nat} {kk : gS → Prop} : gpv .long (.long x) G a k kk = kk (sl G a k x) := rfl
theorem gpv_o {C : String} {b : Nat} {G : gS} {a k : Nat} {kk : gS → Prop} : gpv (.object C) (.ref b) G a k kk = kk (sr G a k (some b)) := rfl
theorem gpv_a {t : FieldType} {b : Nat} {G : gS} {a k : Nat} {kk : gS → Prop} : gpv (.array t) (.ref b) G a k kk = kk (sr G a k (some b)) := rfl
theorem fval_i {i : Int32} {x : Int64} {r : Option Nat} : fval .int i x r = .int i := rfl
theorem fval_z {i : Int32} {x : Int64} {r : Option Nat} : fval .boolean i x r = .int i := rfl
theorem fval_l {i : Int32} {x : Int64} {r : Option Nat} : fval .long i x r = .long x := rfl
theorem fval_o {C : String} {i : Int32} {x : Int64} {r : Option Nat} : fval (.object C) i x r = va_rf r := rfl
theorem fval_a {t : FieldType} {i : Int32} {x : Int64} {r : Option Nat} : fval (.array t) i x r = va_rf r := rfl
theorem va_rf_s {a : Nat} : va_rf (some a) = .ref a := rfl
theorem va_rf_n : va_rf none = .null := rfl
theorem lnw_i {x : Int32} : lnw (some (.int x)) = some (.int x) := rfl
theorem lnw_r {x : Nat} : lnw (some (.ref x)) = some (.ref x) := rfl
theorem lnw_n : lnw (some .null) = some .null := rfl
theorem lnw_0 : lnw none = none := rfl
theorem lnw_l {x : Int64} : lnw (some (.long x)) = none := rfl
theorem gcat_0 : gcat [] = 0 := rfl
theorem gcat_i {x : Int32} {r : List Value} : gcat (.int x :: r) = 1 + gcat r := by simp [gcat, Value.category]
theorem gcat_l {x : Int64} {r : List Value} : gcat (.long x :: r) = 2 + gcat r := by simp [gcat, Value.category]
theorem gcat_r {x : Nat} {r : List Value} : gcat (.ref x :: r) = 1 + gcat r := by simp [gcat, Value.category]
theorem gcat_n {r : List Value} : gcat (.null :: r) = 1 + gcat r := by simp [gcat, Value.category]
theorem grcv_0 {l : List Value} {G : gS} : grcv 0 l G = True := rfl
theorem grcv_s {x a : Nat} {r : List Value} {G : gS} : grcv (x + 1) (.ref a :: r) G = (gsh G a = (1, x, 0)) := rfl
theorem gRET_i {mc ms cs ss : Nat} {post : Option Value → gS → Prop} {v : Int32} {G : gS} : gRET (some .int) mc ms post 1 cs ss [.int v] G = (cs ≤ mc ∧ ss ≤ ms ∧ post (some (.int v)) G) := rfl
theorem gRET_z {mc ms cs ss : Nat} {post : Option Value → gS → Prop} {v : Int32} {G : gS} : gRET (some .boolean) mc ms post 1 cs ss [.int v] G = ((v = 0 ∨ v = 1) ∧ cs ≤ mc ∧ ss ≤ ms ∧ post (some (.int v)) G) := rfl
theorem gRET_l {mc ms cs ss : Nat} {post : Option Value → gS → Prop} {v : Int64} {G : gS} : gRET (some .long) mc ms post 2 cs ss [.long v] G = (cs ≤ mc ∧ ss ≤ ms ∧ post (some (.long v)) G) := rfl
theorem gRET_v {mc ms cs ss : Nat} {post : Option Value → gS → Prop} {G : gS} : gRET none mc ms post 0 cs ss [] G = (cs ≤ mc ∧ ss ≤ ms ∧ post none G) := rfl
theorem lg_0 {o : Option Value} {r : List (Option Value)} : lg 0 (o :: r) = o := by cases r <;> rfl
theorem lg_s {n : Nat} {o : Option Value} {r : List (Option Value)} : lg (n + 1) (o :: r) = lg n r := rfl
theorem ls1_0 {v : Value} {o : Option Value} {r : List (Option Value)} : ls1 0 v (o :: r) = some v :: r := rfl
theorem ls1_1 {v : Value} {o : Option Value} {r : List (Option Value)} : ls1 1 v (o :: r) = lnw o :: ls1 0 v r := rfl
theorem ls1_s {n : Nat} {v : Value} {o : Option Value} {r : List (Option Value)} : ls1 (n + 2) v (o :: r) = o :: ls1 (n + 1) v r := rfl
theorem ls2_0 {v : Value} {o p : Option Value} {r : List (Option Value)} : ls2 0 v (o :: p :: r) = some v :: none :: r := rfl
theorem ls2_1 {v : Value} {o : Option Value} {r : List (Option Value)} : ls2 1 v (o :: r) = lnw o :: ls2 0 v r := rfl
theorem ls2_s {n : Nat} {v : Value} {o : Option Value} {r : List (Option Value)} : ls2 (n + 2) v (o :: r) = o :: ls2 (n + 1) v r := rfl
theorem lpad_0 {r : List (Option Value)} : lpad 0 r = r := rfl
theorem lpad_n {n : Nat} : lpad (n + 1) [] = none :: lpad n [] := rfl
theorem lpad_c {n : Nat} {o : Option Value} {r : List (Option Value)} : lpad (n + 1) (o :: r) = o :: lpad n r := rfl
theorem lent_0 : lent [] = [] := rfl
theorem lent_i {x : Int32} {r : List Value} : lent (.int x :: r) = some (.int x) :: lent r := rfl
theorem lent_l {x : Int64} {r : List Value} : lent (.long x :: r) = some (.long x) :: none :: lent r := rfl
theorem lent_r {x : Nat} {r : List Value} : lent (.ref x :: r) = some (.ref x) :: lent r := rfl
theorem lent_n {r : List Value} : lent (.null :: r) = some .null :: lent r := rfl
theorem glup_c {α : Type} {i j : Nat} {x : α} {r : List (Nat × α)} : glup i ((j, x) :: r) = if i = j then some x else glup i r := rfl
theorem gcall_c {ct : List (Nat × gC)} {ix cs ss Rc Rs n x mc ms : Nat} {S : gSp} {st : List Value} {G : gS} {k : Nat → Nat → List Value → gS → Prop} (h : glup ix ct = some (n, x, S, mc, ms)) : gcall ct ix cs ss Rc Rs st G k = ((st.take n).length = n ∧ gcat (st.drop n) ≤ 8 ∧ (cs + mc ≤ Rc ∧ ss + ms ≤ Rs) ∧ grcv x (st.take n).reverse G ∧ S (st.take n).reverse G (fun v G' => k (cs + mc) (ss + ms) (v.toList ++ st.drop n) G')) := by
  unfold gcall
  rw [h]

theorem gsw_m1 {x : Int32} {A B : Prop} : ((Int32.ofInt (-1)).toInt = (-1) ∧ gbr (x = Int32.ofInt (-1)) A B) = gbr (x = (-1)) A B := by
  rw [show Int32.ofInt (-1) = ((-1) : Int32) from by decide, show ((-1) : Int32).toInt = (-1) from by decide]; simp
theorem gsw_0 {x : Int32} {A B : Prop} : ((Int32.ofInt 0).toInt = 0 ∧ gbr (x = Int32.ofInt 0) A B) = gbr (x = 0) A B := by
  rw [show Int32.ofInt 0 = (0 : Int32) from by decide, show (0 : Int32).toInt = 0 from by decide]; simp
theorem gsw_1 {x : Int32} {A B : Prop} : ((Int32.ofInt 1).toInt = 1 ∧ gbr (x = Int32.ofInt 1) A B) = gbr (x = 1) A B := by
  rw [show Int32.ofInt 1 = (1 : Int32) from by decide, show (1 : Int32).toInt = 1 from by decide]; simp
theorem gsw_2 {x : Int32} {A B : Prop} : ((Int32.ofInt 2).toInt = 2 ∧ gbr (x = Int32.ofInt 2) A B) = gbr (x = 2) A B := by
  rw [show Int32.ofInt 2 = (2 : Int32) from by decide, show (2 : Int32).toInt = 2 from by decide]; simp
theorem gsw_3 {x : Int32} {A B : Prop} : ((Int32.ofInt 3).toInt = 3 ∧ gbr (x = Int32.ofInt 3) A B) = gbr (x = 3) A B := by
  rw [show Int32.ofInt 3 = (3 : Int32) from by decide, show (3 : Int32).toInt = 3 from by decide]; simp
theorem gsw_4 {x : Int32} {A B : Prop} : ((Int32.ofInt 4).toInt = 4 ∧ gbr (x = Int32.ofInt 4) A B) = gbr (x = 4) A B := by
  rw [show Int32.ofInt 4 = (4 : Int32) from by decide, show (4 : Int32).toInt = 4 from by decide]; simp
theorem gsw_5 {x : Int32} {A B : Prop} : ((Int32.ofInt 5).toInt = 5 ∧ gbr (x = Int32.ofInt 5) A B) = gbr (x = 5) A B := by
  rw [show Int32.ofInt 5 = (5 : Int32) from by decide, show (5 : Int32).toInt = 5 from by decide]; simp
theorem gsw_6 {x : Int32} {A B : Prop} : ((Int32.ofInt 6).toInt = 6 ∧ gbr (x = Int32.ofInt 6) A B) = gbr (x = 6) A B := by
  rw [show Int32.ofInt 6 = (6 : Int32) from by decide, show (6 : Int32).toInt = 6 from by decide]; simp
theorem gsw_7 {x : Int32} {A B : Prop} : ((Int32.ofInt 7).toInt = 7 ∧ gbr (x = Int32.ofInt 7) A B) = gbr (x = 7) A B := by
  rw [show Int32.ofInt 7 = (7 : Int32) from by decide, show (7 : Int32).toInt = 7 from by decide]; simp
theorem gsw_8 {x : Int32} {A B : Prop} : ((Int32.ofInt 8).toInt = 8 ∧ gbr (x = Int32.ofInt 8) A B) = gbr (x = 8) A B := by
  rw [show Int32.ofInt 8 = (8 : Int32) from by decide, show (8 : Int32).toInt = 8 from by decide]; simp
theorem gsw_9 {x : Int32} {A B : Prop} : ((Int32.ofInt 9).toInt = 9 ∧ gbr (x = Int32.ofInt 9) A B) = gbr (x = 9) A B := by
  rw [show Int32.ofInt 9 = (9 : Int32) from by decide, show (9 : Int32).toInt = 9 from by decide]; simp
theorem gsw_10 {x : Int32} {A B : Prop} : ((Int32.ofInt 10).toInt = 10 ∧ gbr (x = Int32.ofInt 10) A B) = gbr (x = 10) A B := by
  rw [show Int32.ofInt 10 = (10 : Int32) from by decide, show (10 : Int32).toInt = 10 from by decide]; simp
theorem gsw_11 {x : Int32} {A B : Prop} : ((Int32.ofInt 11).toInt = 11 ∧ gbr (x = Int32.ofInt 11) A B) = gbr (x = 11) A B := by
  rw [show Int32.ofInt 11 = (11 : Int32) from by decide, show (11 : Int32).toInt = 11 from by decide]; simp
theorem gsw_12 {x : Int32} {A B : Prop} : ((Int32.ofInt 12).toInt = 12 ∧ gbr (x = Int32.ofInt 12) A B) = gbr (x = 12) A B := by
  rw [show Int32.ofInt 12 = (12 : Int32) from by decide, show (12 : Int32).toInt = 12 from by decide]; simp
theorem gsw_13 {x : Int32} {A B : Prop} : ((Int32.ofInt 13).toInt = 13 ∧ gbr (x = Int32.ofInt 13) A B) = gbr (x = 13) A B := by
  rw [show Int32.ofInt 13 = (13 : Int32) from by decide, show (13 : Int32).toInt = 13 from by decide]; simp
theorem gsw_14 {x : Int32} {A B : Prop} : ((Int32.ofInt 14).toInt = 14 ∧ gbr (x = Int32.ofInt 14) A B) = gbr (x = 14) A B := by
  rw [show Int32.ofInt 14 = (14 : Int32) from by decide, show (14 : Int32).toInt = 14 from by decide]; simp
theorem gsw_15 {x : Int32} {A B : Prop} : ((Int32.ofInt 15).toInt = 15 ∧ gbr (x = Int32.ofInt 15) A B) = gbr (x = 15) A B := by
  rw [show Int32.ofInt 15 = (15 : Int32) from by decide, show (15 : Int32).toInt = 15 from by decide]; simp
theorem gsw_16 {x : Int32} {A B : Prop} : ((Int32.ofInt 16).toInt = 16 ∧ gbr (x = Int32.ofInt 16) A B) = gbr (x = 16) A B := by
  rw [show Int32.ofInt 16 = (16 : Int32) from by decide, show (16 : Int32).toInt = 16 from by decide]; simp
theorem cty_0_0 : cty 0 0 = .array .int := rfl
theorem cty_0_1 : cty 0 1 = .array .long := rfl
theorem cty_0_2 : cty 0 2 = .int := rfl
theorem cty_1_0 : cty 1 0 = .array (.object "FusionRules$Row") := rfl
theorem cty_1_1 : cty 1 1 = .array .int := rfl
theorem cty_1_2 : cty 1 2 = .array .long := rfl
theorem cty_1_3 : cty 1 3 = .array (.object "FusionRules$Act") := rfl
theorem cty_1_4 : cty 1 4 = .array .int := rfl
theorem cty_1_5 : cty 1 5 = .array .int := rfl
theorem cty_1_6 : cty 1 6 = .array .int := rfl
theorem cty_1_7 : cty 1 7 = .int := rfl
theorem cty_1_8 : cty 1 8 = .int := rfl
theorem cty_1_9 : cty 1 9 = .int := rfl
theorem cty_2_0 : cty 2 0 = .array (.object "FusionRules$Act") := rfl
theorem cty_2_1 : cty 2 1 = .int := rfl
theorem cty_2_2 : cty 2 2 = .int := rfl
theorem cty_2_3 : cty 2 3 = .long := rfl
theorem cty_2_4 : cty 2 4 = .long := rfl
theorem cty_2_5 : cty 2 5 = .int := rfl
theorem cty_2_6 : cty 2 6 = .int := rfl
theorem cty_3_0 : cty 3 0 = .array .long := rfl
theorem cty_3_1 : cty 3 1 = .int := rfl
theorem cty_3_2 : cty 3 2 = .int := rfl
theorem cty_4_0 : cty 4 0 = .object "FusionRules$Elements" := rfl
theorem cty_4_1 : cty 4 1 = .int := rfl
theorem cty_4_2 : cty 4 2 = .int := rfl
theorem cty_4_3 : cty 4 3 = .int := rfl
theorem cty_4_4 : cty 4 4 = .long := rfl
theorem cty_4_5 : cty 4 5 = .array (.object "FusionRules$Row") := rfl
theorem cty_4_6 : cty 4 6 = .array .int := rfl
theorem cty_4_7 : cty 4 7 = .array .boolean := rfl
theorem cty_4_8 : cty 4 8 = .array .int := rfl
theorem cty_4_9 : cty 4 9 = .array .int := rfl
theorem cty_4_10 : cty 4 10 = .array .int := rfl
theorem cty_4_11 : cty 4 11 = .array .int := rfl
theorem cty_4_12 : cty 4 12 = .int := rfl
theorem cty_4_13 : cty 4 13 = .object "FusionRules$Pipe" := rfl
theorem cty_4_14 : cty 4 14 = .int := rfl
theorem cty_4_15 : cty 4 15 = .long := rfl
theorem cty_4_16 : cty 4 16 = .boolean := rfl
theorem cty_5_0 : cty 5 0 = .array (.object "FusionRules$Row") := rfl
theorem cty_5_1 : cty 5 1 = .array (.object "FusionRules$Pipe") := rfl
theorem cty_5_2 : cty 5 2 = .array .int := rfl
theorem cty_5_3 : cty 5 3 = .object "FusionRules$Run" := rfl
theorem cty_5_4 : cty 5 4 = .int := rfl
theorem cty_5_5 : cty 5 5 = .int := rfl
theorem cty_5_6 : cty 5 6 = .int := rfl
theorem cty_5_7 : cty 5 7 = .int := rfl
theorem cty_5_8 : cty 5 8 = .int := rfl
theorem cty_5_9 : cty 5 9 = .int := rfl
theorem cty_5_10 : cty 5 10 = .long := rfl
theorem cty_6_0 : cty 6 0 = .int := rfl
theorem cty_6_1 : cty 6 1 = .array .int := rfl
theorem cty_6_2 : cty 6 2 = .array .int := rfl
theorem cty_6_3 : cty 6 3 = .array .long := rfl
theorem cty_6_4 : cty 6 4 = .array .int := rfl
theorem cty_6_5 : cty 6 5 = .array .long := rfl
theorem cty_6_6 : cty 6 6 = .array .long := rfl
theorem cty_6_7 : cty 6 7 = .array .int := rfl
theorem cty_6_8 : cty 6 8 = .array .int := rfl
theorem cty_6_9 : cty 6 9 = .array .int := rfl
theorem cty_6_10 : cty 6 10 = .array .int := rfl
theorem cty_6_11 : cty 6 11 = .array .long := rfl
theorem cty_6_12 : cty 6 12 = .int := rfl
theorem cty_6_13 : cty 6 13 = .array .int := rfl
theorem cty_6_14 : cty 6 14 = .array .long := rfl
theorem cty_6_15 : cty 6 15 = .array .int := rfl
theorem cty_6_16 : cty 6 16 = .array .int := rfl
theorem cty_6_17 : cty 6 17 = .array .int := rfl
theorem cty_6_18 : cty 6 18 = .int := rfl
theorem cty_6_19 : cty 6 19 = .array .int := rfl
theorem cty_6_20 : cty 6 20 = .array .boolean := rfl
theorem cty_6_21 : cty 6 21 = .int := rfl
theorem cty_6_22 : cty 6 22 = .int := rfl
theorem cty_6_23 : cty 6 23 = .int := rfl
theorem cty_6_24 : cty 6 24 = .int := rfl
theorem cty_6_25 : cty 6 25 = .boolean := rfl
theorem cty_6_26 : cty 6 26 = .array .boolean := rfl
theorem cty_6_27 : cty 6 27 = .array .int := rfl
theorem cty_6_28 : cty 6 28 = .array .int := rfl
theorem cty_6_29 : cty 6 29 = .array .boolean := rfl
theorem cty_6_30 : cty 6 30 = .array .int := rfl
theorem cty_6_31 : cty 6 31 = .array .int := rfl
theorem cty_6_32 : cty 6 32 = .int := rfl
theorem cty_6_33 : cty 6 33 = .long := rfl
theorem cty_6_34 : cty 6 34 = .boolean := rfl
theorem cty_6_35 : cty 6 35 = .int := rfl
theorem cty_6_36 : cty 6 36 = .int := rfl
theorem cty_6_37 : cty 6 37 = .int := rfl
theorem cty_6_38 : cty 6 38 = .long := rfl
theorem cty_6_39 : cty 6 39 = .int := rfl
theorem cty_6_40 : cty 6 40 = .array .int := rfl
theorem gcn_eq : gcn 0 = 3 ∧ gcn 1 = 10 ∧ gcn 2 = 7 ∧ gcn 3 = 3 ∧ gcn 4 = 17 ∧ gcn 5 = 11 ∧ gcn 6 = 41 := by decide
