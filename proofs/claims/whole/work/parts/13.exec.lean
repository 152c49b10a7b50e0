/-! ===== one instruction: what must follow, by the state behind it ===== -/
def gatt (a : ArrayType) : Option Nat := match a with
  | .int => some 0
  | .long => some 1
  | .boolean => some 2
  | _ => none
def gelx (t : Nat) : Nat := match t with
  | 3 => 0
  | 4 => 2
  | _ => 3
def gxe (x : Nat) : Nat := match x with
  | 0 => 3
  | 2 => 4
  | _ => 5
def gcn (x : Nat) : Nat := match vwCl[x]? with
  | some r => r.2.2
  | none => 0
/-- o: the class; nL: the locals; ini: a constructor; ct: the callees; RET: the end; Rc, Rs: the room's cells and slots; K: the state behind -/
def gx (o nL : Nat) (ini : Bool) (ct : List (Nat × gC)) (RET : Nat → Nat → Nat → List Value → gS → Prop) (Rc Rs : Nat) (K : gP) (i : Instr) (len cs ss pc : Nat) (lv : List (Option Value)) (st : List Value) (G : gS) : Prop := match i with
  | .iconst n => gn len 1 (K cs ss (pc + 1) lv (.int (Int32.ofInt n) :: st) G)
  | .bipush n => gn len 2 (K cs ss (pc + 2) lv (.int (Int8.ofInt n).toInt32 :: st) G)
  | .sipush n => gn len 3 (K cs ss (pc + 3) lv (.int (Int16.ofInt n).toInt32 :: st) G)
  | .lconst n => gn len 1 (K cs ss (pc + 1) lv (.long (Int64.ofNat (n : Nat)) :: st) G)
  | .ldc2_w x => gn len 3 (match gLC o x with | some v => K cs ss (pc + 3) lv (.long v :: st) G | none => False)
  | .aconst_null => gn len 1 (K cs ss (pc + 1) lv (.null :: st) G)
  | .iload_n k => gn len 1 (goi (lg k.val lv) fun x => K cs ss (pc + 1) lv (.int x :: st) G)
  | .iload k => gn len 2 (goi (lg k lv) fun x => K cs ss (pc + 2) lv (.int x :: st) G)
  | .lload_n k => gn len 1 (gol (lg k.val lv) fun x => K cs ss (pc + 1) lv (.long x :: st) G)
  | .lload k => gn len 2 (gol (lg k lv) fun x => K cs ss (pc + 2) lv (.long x :: st) G)
  | .aload_n k => gn len 1 (gor (lg k.val lv) fun x => K cs ss (pc + 1) lv (x :: st) G)
  | .aload k => gn len 2 (gor (lg k lv) fun x => K cs ss (pc + 2) lv (x :: st) G)
  | .istore_n k => gn len 1 (g1i st fun x r => k.val < nL ∧ K cs ss (pc + 1) (ls1 k.val (.int x) lv) r G)
  | .istore k => gn len 2 (g1i st fun x r => k < nL ∧ K cs ss (pc + 2) (ls1 k (.int x) lv) r G)
  | .lstore_n k => gn len 1 (g1l st fun x r => k.val + 1 < nL ∧ K cs ss (pc + 1) (ls2 k.val (.long x) lv) r G)
  | .lstore k => gn len 2 (g1l st fun x r => k + 1 < nL ∧ K cs ss (pc + 2) (ls2 k (.long x) lv) r G)
  | .astore_n k => gn len 1 (g1q st fun x r => k.val < nL ∧ K cs ss (pc + 1) (ls1 k.val x lv) r G)
  | .astore k => gn len 2 (g1q st fun x r => k < nL ∧ K cs ss (pc + 2) (ls1 k x lv) r G)
  | .iinc k n => gn len 3 (goi (lg k lv) fun x => k < nL ∧ K cs ss (pc + 3) (ls1 k (.int (x + Int32.ofInt n)) lv) st G)
  | .iadd => gn len 1 (g2i st fun x y r => K cs ss (pc + 1) lv (.int (x + y) :: r) G)
  | .isub => gn len 1 (g2i st fun x y r => K cs ss (pc + 1) lv (.int (x - y) :: r) G)
  | .imul => gn len 1 (g2i st fun x y r => K cs ss (pc + 1) lv (.int (x * y) :: r) G)
  | .iand => gn len 1 (g2i st fun x y r => K cs ss (pc + 1) lv (.int (x &&& y) :: r) G)
  | .idiv => gn len 1 (g2i st fun x y r => ¬ y = 0 ∧ K cs ss (pc + 1) lv (.int (x / y) :: r) G)
  | .ladd => gn len 1 (g2l st fun x y r => K cs ss (pc + 1) lv (.long (x + y) :: r) G)
  | .lsub => gn len 1 (g2l st fun x y r => K cs ss (pc + 1) lv (.long (x - y) :: r) G)
  | .lmul => gn len 1 (g2l st fun x y r => K cs ss (pc + 1) lv (.long (x * y) :: r) G)
  | .land => gn len 1 (g2l st fun x y r => K cs ss (pc + 1) lv (.long (x &&& y) :: r) G)
  | .lor => gn len 1 (g2l st fun x y r => K cs ss (pc + 1) lv (.long (x ||| y) :: r) G)
  | .ldiv => gn len 1 (g2l st fun x y r => ¬ y = 0 ∧ K cs ss (pc + 1) lv (.long (x / y) :: r) G)
  | .lshl => gn len 1 (gil st fun x y r => K cs ss (pc + 1) lv (.long (x <<< (y.toInt64 &&& 63)) :: r) G)
  | .lcmp => gn len 1 (g2l st fun x y r => K cs ss (pc + 1) lv (.int (lg_cmp x y) :: r) G)
  | .i2l => gn len 1 (g1i st fun x r => K cs ss (pc + 1) lv (.long x.toInt64 :: r) G)
  | .i2b => gn len 1 (g1i st fun x r => K cs ss (pc + 1) lv (.int x.toInt8.toInt32 :: r) G)
  | .l2i => gn len 1 (g1l st fun x r => K cs ss (pc + 1) lv (.int x.toInt32 :: r) G)
  | .dup => gn len 1 (gdup st fun r => K cs ss (pc + 1) lv r G)
  | .dup2 => gn len 1 (gdup2 st fun r => K cs ss (pc + 1) lv r G)
  | .ifCond .eq off => gn len 3 (g1i st fun x r => gtg pc off fun t => gbr (x = 0) (K cs ss t lv r G) (K cs ss (pc + 3) lv r G))
  | .ifCond .ne off => gn len 3 (g1i st fun x r => gtg pc off fun t => gbr (x = 0) (K cs ss (pc + 3) lv r G) (K cs ss t lv r G))
  | .ifCond .lt off => gn len 3 (g1i st fun x r => gtg pc off fun t => gbr (x < 0) (K cs ss t lv r G) (K cs ss (pc + 3) lv r G))
  | .ifCond .ge off => gn len 3 (g1i st fun x r => gtg pc off fun t => gbr (0 ≤ x) (K cs ss t lv r G) (K cs ss (pc + 3) lv r G))
  | .ifCond .gt off => gn len 3 (g1i st fun x r => gtg pc off fun t => gbr (0 < x) (K cs ss t lv r G) (K cs ss (pc + 3) lv r G))
  | .ifCond .le off => gn len 3 (g1i st fun x r => gtg pc off fun t => gbr (x ≤ 0) (K cs ss t lv r G) (K cs ss (pc + 3) lv r G))
  | .if_icmp .eq off => gn len 3 (g2i st fun x y r => gtg pc off fun t => gbr (x = y) (K cs ss t lv r G) (K cs ss (pc + 3) lv r G))
  | .if_icmp .ne off => gn len 3 (g2i st fun x y r => gtg pc off fun t => gbr (x = y) (K cs ss (pc + 3) lv r G) (K cs ss t lv r G))
  | .if_icmp .lt off => gn len 3 (g2i st fun x y r => gtg pc off fun t => gbr (x < y) (K cs ss t lv r G) (K cs ss (pc + 3) lv r G))
  | .if_icmp .ge off => gn len 3 (g2i st fun x y r => gtg pc off fun t => gbr (y ≤ x) (K cs ss t lv r G) (K cs ss (pc + 3) lv r G))
  | .if_icmp .gt off => gn len 3 (g2i st fun x y r => gtg pc off fun t => gbr (y < x) (K cs ss t lv r G) (K cs ss (pc + 3) lv r G))
  | .if_icmp .le off => gn len 3 (g2i st fun x y r => gtg pc off fun t => gbr (x ≤ y) (K cs ss t lv r G) (K cs ss (pc + 3) lv r G))
  | .if_acmp .ne off => gn len 3 (goq st fun y r => goq r fun x r => gtg pc off fun t => gbr (x = y) (K cs ss (pc + 3) lv r G) (K cs ss t lv r G))
  | .ifnull off => gn len 3 (g1r st fun _ r => K cs ss (pc + 3) lv r G)
  | .goto off => gn len 3 (gtg pc off fun t => K cs ss t lv st G)
  | .tableswitch d lo hi offs => g1i st fun x r => hi + 1 = lo + offs.size ∧ gtab x (fun off => gtg pc off fun t => K cs ss t lv r G) d lo offs.toList
  | .lookupswitch d ps => g1i st fun x r => (ps.toList.zip (ps.toList.drop 1)).all (fun (a, next) => a.1 < next.1) = true ∧ glkp x (fun off => gtg pc off fun t => K cs ss t lv r G) d ps.toList
  | .getfield ix => gn len 3 (g1r st fun a r => match gFL o ix with | some (x, k, _) => gsh G a = (1, x, 0) ∧ K cs ss (pc + 3) lv (fval (cty x k) (gi G a k) (gl G a k) (gr G a k) :: r) G | none => False)
  | .putfield ix => gn len 3 (gvr st fun v a r => match gFL o ix with | some (x, k, u) => gsh G a = (1, x, 0) ∧ (u = 0 ∨ (u = 1 ∧ ini = true)) ∧ gpv (cty x k) v G a k (fun G' => K cs ss (pc + 3) lv r G') | none => False)
  | .iaload => gn len 1 (gir st fun j a r => (gsh G a).1 = 2 ∧ (gsh G a).2.1 = 0 ∧ vp_in j (gsh G a).2.2 ∧ K cs ss (pc + 1) lv (.int (gi G a j.toNatClampNeg) :: r) G)
  | .baload => gn len 1 (gir st fun j a r => (gsh G a).1 = 2 ∧ (gsh G a).2.1 = 2 ∧ vp_in j (gsh G a).2.2 ∧ K cs ss (pc + 1) lv (.int (gi G a j.toNatClampNeg) :: r) G)
  | .laload => gn len 1 (gir st fun j a r => (gsh G a).1 = 2 ∧ (gsh G a).2.1 = 1 ∧ vp_in j (gsh G a).2.2 ∧ K cs ss (pc + 1) lv (.long (gl G a j.toNatClampNeg) :: r) G)
  | .aaload => gn len 1 (gir st fun j a r => (gsh G a).1 = 2 ∧ (3 ≤ (gsh G a).2.1 ∧ (gsh G a).2.1 < 6) ∧ vp_in j (gsh G a).2.2 ∧ K cs ss (pc + 1) lv (va_rf (gr G a j.toNatClampNeg) :: r) G)
  | .iastore => gn len 1 (giir st fun x j a r => (gsh G a).1 = 2 ∧ (gsh G a).2.1 = 0 ∧ vp_in j (gsh G a).2.2 ∧ K cs ss (pc + 1) lv r (si G a j.toNatClampNeg x))
  | .bastore => gn len 1 (giir st fun x j a r => (gsh G a).1 = 2 ∧ (gsh G a).2.1 = 2 ∧ vp_in j (gsh G a).2.2 ∧ (x = 0 ∨ x = 1) ∧ K cs ss (pc + 1) lv r (si G a j.toNatClampNeg x))
  | .lastore => gn len 1 (glir st fun x j a r => (gsh G a).1 = 2 ∧ (gsh G a).2.1 = 1 ∧ vp_in j (gsh G a).2.2 ∧ K cs ss (pc + 1) lv r (sl G a j.toNatClampNeg x))
  | .aastore => gn len 1 (gqir st fun b j a r => (gsh G a).1 = 2 ∧ (3 ≤ (gsh G a).2.1 ∧ (gsh G a).2.1 < 6) ∧ vp_in j (gsh G a).2.2 ∧ (∀ q, b = some q → gsh G q = (1, gelx (gsh G a).2.1, 0)) ∧ K cs ss (pc + 1) lv r (sr G a j.toNatClampNeg b))
  | .arraylength => gn len 1 (g1r st fun a r => (gsh G a).1 = 2 ∧ (gsh G a).2.1 < 6 ∧ K cs ss (pc + 1) lv (.int (Int32.ofNat (gsh G a).2.2) :: r) G)
  | .newarray t => gn len 2 (g1i st fun n r => match gatt t with | some x => ¬ n < 0 ∧ n.toNatClampNeg ≤ 10000 ∧ cs + 1 ≤ Rc ∧ ss + n.toNatClampNeg ≤ Rs ∧ K (cs + 1) (ss + n.toNatClampNeg) (pc + 2) lv (.ref (gsz G) :: r) (gnw G (2, x, n.toNatClampNeg)) | none => False)
  | .anewarray ix => gn len 3 (g1i st fun n r => match gCL o ix with | some x => (x = 0 ∨ x = 2 ∨ x = 3) ∧ ¬ n < 0 ∧ n.toNatClampNeg ≤ 10000 ∧ cs + 1 ≤ Rc ∧ ss + n.toNatClampNeg ≤ Rs ∧ K (cs + 1) (ss + n.toNatClampNeg) (pc + 3) lv (.ref (gsz G) :: r) (gnw G (2, gxe x, n.toNatClampNeg)) | none => False)
  | .new ix => gn len 3 (match gCL o ix with | some x => cs + 1 ≤ Rc ∧ ss + gcn x ≤ Rs ∧ K (cs + 1) (ss + gcn x) (pc + 3) lv (.ref (gsz G) :: st) (gnw G (1, x, 0)) | none => False)
  | .invokevirtual ix => gn len 3 (ix < 100000 ∧ gcall ct ix cs ss Rc Rs st G fun cs' ss' st' G' => K cs' ss' (pc + 3) lv st' G')
  | .invokestatic ix => gn len 3 (ix < 100000 ∧ gcall ct (100000 + ix) cs ss Rc Rs st G fun cs' ss' st' G' => K cs' ss' (pc + 3) lv st' G')
  | .invokespecial ix => gn len 3 (match gOI o ix with | some _ => g1r st fun _ r => gcat r ≤ 8 ∧ K cs ss (pc + 3) lv r G | none => ix < 100000 ∧ gcall ct (200000 + ix) cs ss Rc Rs st G fun cs' ss' st' G' => K cs' ss' (pc + 3) lv st' G')
  | .ireturn => gn len 1 (RET 1 cs ss st G)
  | .lreturn => gn len 1 (RET 2 cs ss st G)
  | .return_ => gn len 1 (RET 0 cs ss st G)
  | _ => False
