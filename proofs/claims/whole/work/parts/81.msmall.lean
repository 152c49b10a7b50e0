/-! ===== the reference's small calls ===== -/
theorem inI {x lo hi : Int32} {a b : Int64} (ha : a = lo.toInt64) (hb : b = hi.toInt64) : (a ≤ x.toInt64 ∧ x.toInt64 ≤ b) = (lo ≤ x ∧ x ≤ hi) := by
  subst ha hb
  simp only [Int64.le_iff_toInt_le, Int32.le_iff_toInt_le, Int32.toInt_toInt64]
theorem le_pred {x y : Int32} (h0 : 0 ≤ y) (h : y ≤ 1000) : (x ≤ y - 1) = (x < y) := by
  obtain ⟨n, hn, rfl⟩ := vp_of (n := 1001) h0 (Int32.lt_of_le_of_lt h (by decide)) (by decide)
  cases n with
  | zero =>
    apply propext
    show x ≤ -1 ↔ x < 0
    simp only [Int32.le_iff_toInt_le, Int32.lt_iff_toInt_lt]
    rw [show (-1 : Int32).toInt = -1 from rfl, show (0 : Int32).toInt = 0 from rfl]
    omega
  | succ n =>
    rw [nI_pred]
    apply propext
    simp only [Int32.le_iff_toInt_le, Int32.lt_iff_toInt_lt]
    rw [nI_toInt (by omega), nI_toInt (by omega)]
    omega
theorem lt_s6 {x : Int32} : (x ≤ 5) = (x < 6) := by
  apply propext
  simp only [Int32.le_iff_toInt_le, Int32.lt_iff_toInt_lt]
  rw [show (5 : Int32).toInt = 5 from rfl, show (6 : Int32).toInt = 6 from rfl]
  omega
theorem lt_s4 {x : Int32} : (x ≤ 3) = (x < 4) := by
  apply propext
  simp only [Int32.le_iff_toInt_le, Int32.lt_iff_toInt_lt]
  rw [show (3 : Int32).toInt = 3 from rfl, show (4 : Int32).toInt = 4 from rfl]
  omega
theorem in05 {x : Int32} : (0 ≤ x.toInt64 ∧ x.toInt64 ≤ 5) = isR x := (inI (a := 0) (b := 5) (lo := 0) (hi := 5) rfl rfl).trans (by rw [lt_s6])
theorem in03 {x : Int32} : (0 ≤ x.toInt64 ∧ x.toInt64 ≤ 3) = isP x := (inI (a := 0) (b := 3) (lo := 0) (hi := 3) rfl rfl).trans (by rw [lt_s4])
theorem in03' {x : Int32} : (0 ≤ x.toInt64 ∧ x.toInt64 ≤ 3) = (0 ≤ x ∧ x ≤ 3) := inI (a := 0) (b := 3) (lo := 0) (hi := 3) rfl rfl
theorem b2_pe {p q : Prop} [Decidable p] [Decidable q] (h : p = q) : b2 p = b2 q := b2_c (by rw [h])
def S_X7_in : gSp := fun av G post => ∃ (v lo hi : Int64), av = [.long v, .long lo, .long hi] ∧ post (some (.int (b2 (lo ≤ v ∧ v ≤ hi)))) G
theorem e_X7_in {v lo hi : Int64} {G : gS} {post : Option Value → gS → Prop} : S_X7_in [.long v, .long lo, .long hi] G post = (post (some (.int (b2 (lo ≤ v ∧ v ≤ hi)))) G) := propext ⟨by rintro ⟨_, _, _, h, h2⟩; cases h; exact h2, fun h => ⟨_, _, _, rfl, h⟩⟩
set_option maxRecDepth 100000 in
set_option maxHeartbeats 4000000 in
theorem c_X7_in (l : Launch) : gMet l yX7_in cX7_in 6 (some .boolean) 1 0 0 S_X7_in := by
  refine gMet_of 7 false [] (by decide) rfl (by decide) (by first | decide | omega) ?_ ?_ ?_
  · rintro av G post ⟨v, lo, hi, rfl, -⟩; exact Nat.le_of_ble_eq_true rfl
  · intro p e s m args below meth c D base Q B
    exact fun _ h => absurd h List.not_mem_nil
  · rintro p e s m args below meth c D base av G post ⟨v, lo, hi, rfl, hp⟩ O
    refine gw1_ok (cuts := []) O 100 ?_
    simp only [gwp_s dX7_in_0, gw1_s dX7_in_0, gwp_s dX7_in_1, gw1_s dX7_in_1, gwp_s dX7_in_2, gw1_s dX7_in_2, gwp_s dX7_in_3, gw1_s dX7_in_3, gwp_s dX7_in_6, gw1_s dX7_in_6, gwp_s dX7_in_7, gw1_s dX7_in_7, gwp_s dX7_in_9, gw1_s dX7_in_9, gwp_s dX7_in_10, gw1_s dX7_in_10, gwp_s dX7_in_13, gw1_s dX7_in_13, gwp_s dX7_in_14, gw1_s dX7_in_14, gwp_s dX7_in_17, gw1_s dX7_in_17, gwp_s dX7_in_18, gw1_s dX7_in_18, gtg_eq 10 7 17 (by decide), gtg_eq 14 4 18 (by decide), gtg_eq 3 14 17 (by decide), gx_goto, gx_iconst_0, gx_iconst_1, gx_ifCond_gt, gx_ifCond_lt, gx_ireturn, gx_lcmp, gx_lload, gx_lload_n_0, gx_lload_n_2, gn_self, g1i_c, g2i_c, g1l_c, g2l_c, gil_c, g1r_c, g1q_c, g1q_n, goq_c, gvr_c, gir_c, giir_c, glir_c, gqir_c, gqir_n, gdup_i, gdup_r, gdup2_l, gdup2_ir, gdup2_ii, goi_c, gol_c, gor_c, gor_n, gpv_i, gpv_z, gpv_l, gpv_o, gpv_a, fval_i, fval_z, fval_l, fval_o, fval_a, va_rf_s, va_rf_n, lnw_i, lnw_r, lnw_n, lnw_0, lnw_l, gcat_0, gcat_i, gcat_l, gcat_r, gcat_n, grcv_0, grcv_s, gRET_i, gRET_z, gRET_l, gRET_v, lg_0, lg_s, ls1_0, ls1_1, ls1_s, ls2_0, ls2_1, ls2_s, lpad_0, lpad_n, lpad_c, lent_0, lent_i, lent_l, lent_r, lent_n, gsh_si, gsh_sl, gsh_sr, gr_si, gr_sl, gi_sl, gi_sr, gl_si, gl_sr, List.contains_nil, List.contains_cons, Bool.false_eq_true, if_false, if_true, true_and, and_true, true_or, or_true, Nat.le_refl, Nat.zero_le, List.take_succ_cons, List.take_zero, List.drop_succ_cons, List.drop_zero, List.reverse_cons, List.reverse_nil, List.nil_append, List.cons_append, List.append_nil, List.length_cons, List.length_nil, Option.toList_some, Option.toList_none, Nat.add_zero, Nat.zero_add, Nat.reduceAdd, Nat.reduceLT, Nat.reduceLeDiff, Nat.reduceEqDiff, Nat.reduceBEq, Nat.reduceMul, Nat.reduceSub, ↓reduceIte, reduceCtorEq, Int32.reduceLE, Int32.reduceLT, Int32.reduceAdd, Int32.reduceSub, Int32.reduceMul, Int32.reduceToNatClampNeg, Int64.reduceLT, Int64.reduceLE, Bool.or_false, Bool.false_or, Bool.or_true, Bool.true_or, and_false, false_and, or_false, false_or, not_true_eq_false, not_false_eq_true, gcall, glup_c, gbr_T, gbr_F, List.zip_cons_cons, List.zip_nil_right, List.zip_nil_left, List.all_cons, List.all_nil, Bool.and_true, Int.reduceLT, decide_true, decide_eq_true_eq, cmp_eq, cmp_le, cmp_lt, cmp_ge, cmp_gt, b2_e0, b2_e1, bz_e0, bz_e1, gbr_N, ne01, ne10, nem0, nem1, vp_in0, m1lt0, m1ge0]
    refine gbr_i (fun h => ?_) (fun h => gbr_i (fun h2 => ?_) (fun h2 => ?_))
    · rw [b2_f (fun q => Int64.not_lt.mpr q.1 h)] at hp; exact hp
    · rw [b2_f (fun q => Int64.not_lt.mpr q.2 h2)] at hp; exact hp
    · rw [b2_t ⟨Int64.not_lt.mp h, Int64.not_lt.mp h2⟩] at hp; exact hp
def S_X7_isRow : gSp := fun av G post => ∃ (x : Int32), av = [.int x] ∧ post (some (.int (b2 (isR x)))) G
theorem e_X7_isRow {x : Int32} {G : gS} {post : Option Value → gS → Prop} : S_X7_isRow [.int x] G post = (post (some (.int (b2 (isR x)))) G) := propext ⟨by rintro ⟨_, h, h2⟩; cases h; exact h2, fun h => ⟨_, rfl, h⟩⟩
set_option maxRecDepth 100000 in
set_option maxHeartbeats 4000000 in
theorem c_X7_isRow (l : Launch) : gMet l yX7_isRow cX7_isRow 1 (some .boolean) 2 0 0 S_X7_isRow := by
  refine gMet_of 7 false [(100093, 3, 0, S_X7_in, 0, 0)] (by decide) rfl (by decide) (by first | decide | omega) ?_ ?_ ?_
  · rintro av G post ⟨x, rfl, -⟩; exact Nat.le_of_ble_eq_true rfl
  · intro p e s m args below meth c D base Q B
    exact List.forall_mem_cons.mpr ⟨gCO_S (ix := 93) B (c_X7_in l) mS_X7_in ml_7_93 (by decide) ⟨Nat.le_of_ble_eq_true rfl, Nat.le_of_ble_eq_true rfl⟩, fun _ h => absurd h List.not_mem_nil⟩
  · rintro p e s m args below meth c D base av G post ⟨x, rfl, hp⟩ O
    refine gw1_ok (cuts := []) O 100 ?_
    simp only [gwp_s dX7_isRow_0, gw1_s dX7_isRow_0, gwp_s dX7_isRow_1, gw1_s dX7_isRow_1, gwp_s dX7_isRow_2, gw1_s dX7_isRow_2, gwp_s dX7_isRow_3, gw1_s dX7_isRow_3, gwp_s dX7_isRow_6, gw1_s dX7_isRow_6, gwp_s dX7_isRow_9, gw1_s dX7_isRow_9, gx_i2l, gx_iload_n_0, gx_invokestatic, gx_ireturn, gx_lconst_0, gx_ldc2_w, lc_7_91, gn_self, g1i_c, g2i_c, g1l_c, g2l_c, gil_c, g1r_c, g1q_c, g1q_n, goq_c, gvr_c, gir_c, giir_c, glir_c, gqir_c, gqir_n, gdup_i, gdup_r, gdup2_l, gdup2_ir, gdup2_ii, goi_c, gol_c, gor_c, gor_n, gpv_i, gpv_z, gpv_l, gpv_o, gpv_a, fval_i, fval_z, fval_l, fval_o, fval_a, va_rf_s, va_rf_n, lnw_i, lnw_r, lnw_n, lnw_0, lnw_l, gcat_0, gcat_i, gcat_l, gcat_r, gcat_n, grcv_0, grcv_s, gRET_i, gRET_z, gRET_l, gRET_v, lg_0, lg_s, ls1_0, ls1_1, ls1_s, ls2_0, ls2_1, ls2_s, lpad_0, lpad_n, lpad_c, lent_0, lent_i, lent_l, lent_r, lent_n, gsh_si, gsh_sl, gsh_sr, gr_si, gr_sl, gi_sl, gi_sr, gl_si, gl_sr, List.contains_nil, List.contains_cons, Bool.false_eq_true, if_false, if_true, true_and, and_true, true_or, or_true, Nat.le_refl, Nat.zero_le, List.take_succ_cons, List.take_zero, List.drop_succ_cons, List.drop_zero, List.reverse_cons, List.reverse_nil, List.nil_append, List.cons_append, List.append_nil, List.length_cons, List.length_nil, Option.toList_some, Option.toList_none, Nat.add_zero, Nat.zero_add, Nat.reduceAdd, Nat.reduceLT, Nat.reduceLeDiff, Nat.reduceEqDiff, Nat.reduceBEq, Nat.reduceMul, Nat.reduceSub, ↓reduceIte, reduceCtorEq, Int32.reduceLE, Int32.reduceLT, Int32.reduceAdd, Int32.reduceSub, Int32.reduceMul, Int32.reduceToNatClampNeg, Int64.reduceLT, Int64.reduceLE, Bool.or_false, Bool.false_or, Bool.or_true, Bool.true_or, and_false, false_and, or_false, false_or, not_true_eq_false, not_false_eq_true, gcall, glup_c, gbr_T, gbr_F, List.zip_cons_cons, List.zip_nil_right, List.zip_nil_left, List.all_cons, List.all_nil, Bool.and_true, Int.reduceLT, decide_true, decide_eq_true_eq, cmp_eq, cmp_le, cmp_lt, cmp_ge, cmp_gt, b2_e0, b2_e1, bz_e0, bz_e1, gbr_N, ne01, ne10, nem0, nem1, vp_in0, m1lt0, m1ge0, e_X7_in]
    rw [b2_pe (in05 (x := x))]
    exact ⟨(Classical.em _).symm, hp⟩
def S_X7_isPipe : gSp := fun av G post => ∃ (x : Int32), av = [.int x] ∧ post (some (.int (b2 (isP x)))) G
theorem e_X7_isPipe {x : Int32} {G : gS} {post : Option Value → gS → Prop} : S_X7_isPipe [.int x] G post = (post (some (.int (b2 (isP x)))) G) := propext ⟨by rintro ⟨_, h, h2⟩; cases h; exact h2, fun h => ⟨_, rfl, h⟩⟩
set_option maxRecDepth 100000 in
set_option maxHeartbeats 4000000 in
theorem c_X7_isPipe (l : Launch) : gMet l yX7_isPipe cX7_isPipe 1 (some .boolean) 2 0 0 S_X7_isPipe := by
  refine gMet_of 7 false [(100093, 3, 0, S_X7_in, 0, 0)] (by decide) rfl (by decide) (by first | decide | omega) ?_ ?_ ?_
  · rintro av G post ⟨x, rfl, -⟩; exact Nat.le_of_ble_eq_true rfl
  · intro p e s m args below meth c D base Q B
    exact List.forall_mem_cons.mpr ⟨gCO_S (ix := 93) B (c_X7_in l) mS_X7_in ml_7_93 (by decide) ⟨Nat.le_of_ble_eq_true rfl, Nat.le_of_ble_eq_true rfl⟩, fun _ h => absurd h List.not_mem_nil⟩
  · rintro p e s m args below meth c D base av G post ⟨x, rfl, hp⟩ O
    refine gw1_ok (cuts := []) O 100 ?_
    simp only [gwp_s dX7_isPipe_0, gw1_s dX7_isPipe_0, gwp_s dX7_isPipe_1, gw1_s dX7_isPipe_1, gwp_s dX7_isPipe_2, gw1_s dX7_isPipe_2, gwp_s dX7_isPipe_3, gw1_s dX7_isPipe_3, gwp_s dX7_isPipe_6, gw1_s dX7_isPipe_6, gwp_s dX7_isPipe_9, gw1_s dX7_isPipe_9, gx_i2l, gx_iload_n_0, gx_invokestatic, gx_ireturn, gx_lconst_0, gx_ldc2_w, lc_7_101, gn_self, g1i_c, g2i_c, g1l_c, g2l_c, gil_c, g1r_c, g1q_c, g1q_n, goq_c, gvr_c, gir_c, giir_c, glir_c, gqir_c, gqir_n, gdup_i, gdup_r, gdup2_l, gdup2_ir, gdup2_ii, goi_c, gol_c, gor_c, gor_n, gpv_i, gpv_z, gpv_l, gpv_o, gpv_a, fval_i, fval_z, fval_l, fval_o, fval_a, va_rf_s, va_rf_n, lnw_i, lnw_r, lnw_n, lnw_0, lnw_l, gcat_0, gcat_i, gcat_l, gcat_r, gcat_n, grcv_0, grcv_s, gRET_i, gRET_z, gRET_l, gRET_v, lg_0, lg_s, ls1_0, ls1_1, ls1_s, ls2_0, ls2_1, ls2_s, lpad_0, lpad_n, lpad_c, lent_0, lent_i, lent_l, lent_r, lent_n, gsh_si, gsh_sl, gsh_sr, gr_si, gr_sl, gi_sl, gi_sr, gl_si, gl_sr, List.contains_nil, List.contains_cons, Bool.false_eq_true, if_false, if_true, true_and, and_true, true_or, or_true, Nat.le_refl, Nat.zero_le, List.take_succ_cons, List.take_zero, List.drop_succ_cons, List.drop_zero, List.reverse_cons, List.reverse_nil, List.nil_append, List.cons_append, List.append_nil, List.length_cons, List.length_nil, Option.toList_some, Option.toList_none, Nat.add_zero, Nat.zero_add, Nat.reduceAdd, Nat.reduceLT, Nat.reduceLeDiff, Nat.reduceEqDiff, Nat.reduceBEq, Nat.reduceMul, Nat.reduceSub, ↓reduceIte, reduceCtorEq, Int32.reduceLE, Int32.reduceLT, Int32.reduceAdd, Int32.reduceSub, Int32.reduceMul, Int32.reduceToNatClampNeg, Int64.reduceLT, Int64.reduceLE, Bool.or_false, Bool.false_or, Bool.or_true, Bool.true_or, and_false, false_and, or_false, false_or, not_true_eq_false, not_false_eq_true, gcall, glup_c, gbr_T, gbr_F, List.zip_cons_cons, List.zip_nil_right, List.zip_nil_left, List.all_cons, List.all_nil, Bool.and_true, Int.reduceLT, decide_true, decide_eq_true_eq, cmp_eq, cmp_le, cmp_lt, cmp_ge, cmp_gt, b2_e0, b2_e1, bz_e0, bz_e1, gbr_N, ne01, ne10, nem0, nem1, vp_in0, m1lt0, m1ge0, e_X7_in]
    rw [b2_pe (in03 (x := x))]
    exact ⟨(Classical.em _).symm, hp⟩
def S_X7_value : gSp := fun av G post => ∃ (M : Nat) (S : sS), av = [.ref M] ∧ WM M S G ∧ ∀ G', WM M S G' → frm (mdC M) G G' → post (some (.long S.2.2.2.2.2.1)) G'
set_option maxRecDepth 100000 in
set_option maxHeartbeats 4000000 in
theorem c_X7_value (l : Launch) : gMet l yX7_value cX7_value 1 (some .long) 1 0 0 S_X7_value := by
  refine gMet_of 7 false [] (by decide) rfl (by decide) (by first | decide | omega) ?_ ?_ ?_
  · rintro av G post ⟨M, S, rfl, -⟩; exact Nat.le_of_ble_eq_true rfl
  · intro p e s m args below meth c D base Q B
    exact fun _ h => absurd h List.not_mem_nil
  · rintro p e s m args below meth c D base av G post ⟨M, S, rfl, hW, hp⟩ O
    have m0 := hW.1.1
    have h5 := hW.2.2.2.2.1.2.2.2.2.1
    refine gw1_ok (cuts := []) O 100 ?_
    simp only [gwp_s dX7_value_0, gw1_s dX7_value_0, gwp_s dX7_value_1, gw1_s dX7_value_1, gwp_s dX7_value_2, gw1_s dX7_value_2, gwp_s dX7_value_5, gw1_s dX7_value_5, gwp_s dX7_value_6, gw1_s dX7_value_6, gwp_s dX7_value_9, gw1_s dX7_value_9, cty_6_0, cty_6_33, fl_7_219, fl_7_87, gx_aload_n_0, gx_getfield, gx_iconst_0, gx_lreturn, gx_putfield, gn_self, g1i_c, g2i_c, g1l_c, g2l_c, gil_c, g1r_c, g1q_c, g1q_n, goq_c, gvr_c, gir_c, giir_c, glir_c, gqir_c, gqir_n, gdup_i, gdup_r, gdup2_l, gdup2_ir, gdup2_ii, goi_c, gol_c, gor_c, gor_n, gpv_i, gpv_z, gpv_l, gpv_o, gpv_a, fval_i, fval_z, fval_l, fval_o, fval_a, va_rf_s, va_rf_n, lnw_i, lnw_r, lnw_n, lnw_0, lnw_l, gcat_0, gcat_i, gcat_l, gcat_r, gcat_n, grcv_0, grcv_s, gRET_i, gRET_z, gRET_l, gRET_v, lg_0, lg_s, ls1_0, ls1_1, ls1_s, ls2_0, ls2_1, ls2_s, lpad_0, lpad_n, lpad_c, lent_0, lent_i, lent_l, lent_r, lent_n, gsh_si, gsh_sl, gsh_sr, gr_si, gr_sl, gi_sl, gi_sr, gl_si, gl_sr, List.contains_nil, List.contains_cons, Bool.false_eq_true, if_false, if_true, true_and, and_true, true_or, or_true, Nat.le_refl, Nat.zero_le, List.take_succ_cons, List.take_zero, List.drop_succ_cons, List.drop_zero, List.reverse_cons, List.reverse_nil, List.nil_append, List.cons_append, List.append_nil, List.length_cons, List.length_nil, Option.toList_some, Option.toList_none, Nat.add_zero, Nat.zero_add, Nat.reduceAdd, Nat.reduceLT, Nat.reduceLeDiff, Nat.reduceEqDiff, Nat.reduceBEq, Nat.reduceMul, Nat.reduceSub, ↓reduceIte, reduceCtorEq, Int32.reduceLE, Int32.reduceLT, Int32.reduceAdd, Int32.reduceSub, Int32.reduceMul, Int32.reduceToNatClampNeg, Int64.reduceLT, Int64.reduceLE, Bool.or_false, Bool.false_or, Bool.or_true, Bool.true_or, and_false, false_and, or_false, false_or, not_true_eq_false, not_false_eq_true, gcall, glup_c, gbr_T, gbr_F, List.zip_cons_cons, List.zip_nil_right, List.zip_nil_left, List.all_cons, List.all_nil, Bool.and_true, Int.reduceLT, decide_true, decide_eq_true_eq, cmp_eq, cmp_le, cmp_lt, cmp_ge, cmp_gt, b2_e0, b2_e1, bz_e0, bz_e1, gbr_N, ne01, ne10, nem0, nem1, vp_in0, m1lt0, m1ge0, m0, h5]
    exact hp _ hW.t (frm_t frm.rf)
def S_X7_count : gSp := fun av G post => ∃ (M : Nat) (w : Int32) (S : sS), av = [.ref M, .int w] ∧ WM M S G ∧ ∀ G', WM M S G' → frm (mdC M) G G' → post (some (.int (qCount S w))) G'
set_option maxRecDepth 100000 in
set_option maxHeartbeats 4000000 in
theorem c_X7_count (l : Launch) : gMet l yX7_count cX7_count 2 (some .int) 1 0 0 S_X7_count := by
  refine gMet_of 7 false [] (by decide) rfl (by decide) (by first | decide | omega) ?_ ?_ ?_
  · rintro av G post ⟨M, w, S, rfl, -⟩; exact Nat.le_of_ble_eq_true rfl
  · intro p e s m args below meth c D base Q B
    exact fun _ h => absurd h List.not_mem_nil
  · rintro p e s m args below meth c D base av G post ⟨M, w, S, rfl, hW, hp⟩ O
    have m0 := hW.1.1
    have t0 := hW.t (v := 0)
    obtain ⟨b1, bb2, b3, -⟩ := t0.2.2.2.2.1
    have b4 := t0.2.2.2.1.1
    have hp' := hp _ t0 (frm_t frm.rf)
    refine gw1_ok (cuts := []) O 100 ?_
    simp only [gwp_s dX7_count_0, gw1_s dX7_count_0, gwp_s dX7_count_1, gw1_s dX7_count_1, gwp_s dX7_count_2, gw1_s dX7_count_2, gwp_s dX7_count_5, gw1_s dX7_count_5, gwp_s dX7_count_6, gw1_s dX7_count_6, gwp_s dX7_count_36, gw1_s dX7_count_36, gwp_s dX7_count_37, gw1_s dX7_count_37, gwp_s dX7_count_40, gw1_s dX7_count_40, gwp_s dX7_count_41, gw1_s dX7_count_41, gwp_s dX7_count_42, gw1_s dX7_count_42, gwp_s dX7_count_45, gw1_s dX7_count_45, gwp_s dX7_count_46, gw1_s dX7_count_46, gwp_s dX7_count_47, gw1_s dX7_count_47, gwp_s dX7_count_50, gw1_s dX7_count_50, gwp_s dX7_count_51, gw1_s dX7_count_51, gwp_s dX7_count_52, gw1_s dX7_count_52, gwp_s dX7_count_55, gw1_s dX7_count_55, gwp_s dX7_count_56, gw1_s dX7_count_56, gwp_s dX7_count_58, gw1_s dX7_count_58, Int.reduceAdd, List.length_cons, List.length_nil, List.size_toArray, cty_6_0, cty_6_35, cty_6_36, cty_6_37, cty_6_39, fl_7_203, fl_7_210, fl_7_213, fl_7_222, fl_7_87, glkp, gsw_0, gsw_1, gsw_2, gsw_3, gtab, gtg_eq 6 30 36 (by decide), gtg_eq 6 35 41 (by decide), gtg_eq 6 40 46 (by decide), gtg_eq 6 45 51 (by decide), gtg_eq 6 50 56 (by decide), gx_aload_n_0, gx_bipush_m2, gx_getfield, gx_iconst_0, gx_iload_n_1, gx_ireturn, gx_putfield, gx_tableswitch, show ((4 : Nat) : Int) = 4 from rfl, gn_self, g1i_c, g2i_c, g1l_c, g2l_c, gil_c, g1r_c, g1q_c, g1q_n, goq_c, gvr_c, gir_c, giir_c, glir_c, gqir_c, gqir_n, gdup_i, gdup_r, gdup2_l, gdup2_ir, gdup2_ii, goi_c, gol_c, gor_c, gor_n, gpv_i, gpv_z, gpv_l, gpv_o, gpv_a, fval_i, fval_z, fval_l, fval_o, fval_a, va_rf_s, va_rf_n, lnw_i, lnw_r, lnw_n, lnw_0, lnw_l, gcat_0, gcat_i, gcat_l, gcat_r, gcat_n, grcv_0, grcv_s, gRET_i, gRET_z, gRET_l, gRET_v, lg_0, lg_s, ls1_0, ls1_1, ls1_s, ls2_0, ls2_1, ls2_s, lpad_0, lpad_n, lpad_c, lent_0, lent_i, lent_l, lent_r, lent_n, gsh_si, gsh_sl, gsh_sr, gr_si, gr_sl, gi_sl, gi_sr, gl_si, gl_sr, List.contains_nil, List.contains_cons, Bool.false_eq_true, if_false, if_true, true_and, and_true, true_or, or_true, Nat.le_refl, Nat.zero_le, List.take_succ_cons, List.take_zero, List.drop_succ_cons, List.drop_zero, List.reverse_cons, List.reverse_nil, List.nil_append, List.cons_append, List.append_nil, List.length_cons, List.length_nil, Option.toList_some, Option.toList_none, Nat.add_zero, Nat.zero_add, Nat.reduceAdd, Nat.reduceLT, Nat.reduceLeDiff, Nat.reduceEqDiff, Nat.reduceBEq, Nat.reduceMul, Nat.reduceSub, ↓reduceIte, reduceCtorEq, Int32.reduceLE, Int32.reduceLT, Int32.reduceAdd, Int32.reduceSub, Int32.reduceMul, Int32.reduceToNatClampNeg, Int64.reduceLT, Int64.reduceLE, Bool.or_false, Bool.false_or, Bool.or_true, Bool.true_or, and_false, false_and, or_false, false_or, not_true_eq_false, not_false_eq_true, gcall, glup_c, gbr_T, gbr_F, List.zip_cons_cons, List.zip_nil_right, List.zip_nil_left, List.all_cons, List.all_nil, Bool.and_true, Int.reduceLT, decide_true, decide_eq_true_eq, cmp_eq, cmp_le, cmp_lt, cmp_ge, cmp_gt, b2_e0, b2_e1, bz_e0, bz_e1, gbr_N, ne01, ne10, nem0, nem1, vp_in0, m1lt0, m1ge0, m0, b1, bb2, b3, b4]
    unfold qCount at hp'
    refine gbr_i (fun h => ?_) (fun h0 => gbr_i (fun h => ?_) (fun h1 => gbr_i (fun h => ?_) (fun h2 => gbr_i (fun h => ?_) (fun h3 => ?_))))
    · rw [if_pos h] at hp'; exact hp'
    · rw [if_neg h0, if_pos h] at hp'; exact hp'
    · rw [if_neg h0, if_neg h1, if_pos h] at hp'; exact hp'
    · rw [if_neg h0, if_neg h1, if_neg h2, if_pos h] at hp'; exact hp'
    · rw [if_neg h0, if_neg h1, if_neg h2, if_neg h3] at hp'; exact hp'
def S_X7_ran : gSp := fun av G post => ∃ (M : Nat) (w : Int32) (S : sS), av = [.ref M, .int w] ∧ WM M S G ∧ ∀ G', WM M S G' → frm (mdC M) G G' → post (some (.int (qRan S w))) G'
set_option maxRecDepth 100000 in
set_option maxHeartbeats 4000000 in
theorem c_X7_ran (l : Launch) : gMet l yX7_ran cX7_ran 2 (some .int) 2 0 0 S_X7_ran := by
  refine gMet_of 7 false [(100093, 3, 0, S_X7_in, 0, 0)] (by decide) rfl (by decide) (by first | decide | omega) ?_ ?_ ?_
  · rintro av G post ⟨M, w, S, rfl, -⟩; exact Nat.le_of_ble_eq_true rfl
  · intro p e s m args below meth c D base Q B
    exact List.forall_mem_cons.mpr ⟨gCO_S (ix := 93) B (c_X7_in l) mS_X7_in ml_7_93 (by decide) ⟨Nat.le_of_ble_eq_true rfl, Nat.le_of_ble_eq_true rfl⟩, fun _ h => absurd h List.not_mem_nil⟩
  · rintro p e s m args below meth c D base av G post ⟨M, w, S, rfl, hW, hp⟩ O
    have m0 := hW.1.1
    have t0 := hW.t (v := 0)
    have b6 := t0.2.2.2.2.1.2.2.2.2.2
    obtain ⟨b1, bb2, b3, b4⟩ := t0.2.2.2.2.2
    have hp' := hp _ t0 (frm_t frm.rf)
    unfold qRan at hp'
    refine gw1_ok (cuts := []) O 100 ?_
    simp only [gwp_s dX7_ran_0, gw1_s dX7_ran_0, gwp_s dX7_ran_1, gw1_s dX7_ran_1, gwp_s dX7_ran_2, gw1_s dX7_ran_2, gwp_s dX7_ran_5, gw1_s dX7_ran_5, gwp_s dX7_ran_6, gw1_s dX7_ran_6, gwp_s dX7_ran_7, gw1_s dX7_ran_7, gwp_s dX7_ran_8, gw1_s dX7_ran_8, gwp_s dX7_ran_11, gw1_s dX7_ran_11, gwp_s dX7_ran_14, gw1_s dX7_ran_14, gwp_s dX7_ran_17, gw1_s dX7_ran_17, gwp_s dX7_ran_19, gw1_s dX7_ran_19, gwp_s dX7_ran_20, gw1_s dX7_ran_20, gwp_s dX7_ran_21, gw1_s dX7_ran_21, gwp_s dX7_ran_24, gw1_s dX7_ran_24, gwp_s dX7_ran_27, gw1_s dX7_ran_27, gwp_s dX7_ran_29, gw1_s dX7_ran_29, gwp_s dX7_ran_32, gw1_s dX7_ran_32, gwp_s dX7_ran_33, gw1_s dX7_ran_33, gwp_s dX7_ran_36, gw1_s dX7_ran_36, gwp_s dX7_ran_37, gw1_s dX7_ran_37, gwp_s dX7_ran_40, gw1_s dX7_ran_40, gwp_s dX7_ran_43, gw1_s dX7_ran_43, gwp_s dX7_ran_44, gw1_s dX7_ran_44, gwp_s dX7_ran_45, gw1_s dX7_ran_45, gwp_s dX7_ran_48, gw1_s dX7_ran_48, gwp_s dX7_ran_49, gw1_s dX7_ran_49, gwp_s dX7_ran_52, gw1_s dX7_ran_52, gwp_s dX7_ran_55, gw1_s dX7_ran_55, gwp_s dX7_ran_56, gw1_s dX7_ran_56, gwp_s dX7_ran_57, gw1_s dX7_ran_57, gwp_s dX7_ran_60, gw1_s dX7_ran_60, gwp_s dX7_ran_61, gw1_s dX7_ran_61, gwp_s dX7_ran_64, gw1_s dX7_ran_64, gwp_s dX7_ran_67, gw1_s dX7_ran_67, gwp_s dX7_ran_68, gw1_s dX7_ran_68, gwp_s dX7_ran_71, gw1_s dX7_ran_71, cty_6_0, cty_6_18, cty_6_21, cty_6_22, cty_6_23, cty_6_34, fl_7_131, fl_7_166, fl_7_180, fl_7_194, fl_7_200, fl_7_87, gtg_eq 14 6 20 (by decide), gtg_eq 24 8 32 (by decide), gtg_eq 29 42 71 (by decide), gtg_eq 33 10 43 (by decide), gtg_eq 40 31 71 (by decide), gtg_eq 45 10 55 (by decide), gtg_eq 52 19 71 (by decide), gtg_eq 57 10 67 (by decide), gtg_eq 64 7 71 (by decide), gx_aload_n_0, gx_bipush_m2, gx_bipush_m3, gx_getfield, gx_goto, gx_i2l, gx_iconst_0, gx_iconst_1, gx_iconst_2, gx_ifCond_ne, gx_if_icmp_ne, gx_iload_n_1, gx_invokestatic, gx_ireturn, gx_lconst_0, gx_ldc2_w, gx_putfield, lc_7_101, gn_self, g1i_c, g2i_c, g1l_c, g2l_c, gil_c, g1r_c, g1q_c, g1q_n, goq_c, gvr_c, gir_c, giir_c, glir_c, gqir_c, gqir_n, gdup_i, gdup_r, gdup2_l, gdup2_ir, gdup2_ii, goi_c, gol_c, gor_c, gor_n, gpv_i, gpv_z, gpv_l, gpv_o, gpv_a, fval_i, fval_z, fval_l, fval_o, fval_a, va_rf_s, va_rf_n, lnw_i, lnw_r, lnw_n, lnw_0, lnw_l, gcat_0, gcat_i, gcat_l, gcat_r, gcat_n, grcv_0, grcv_s, gRET_i, gRET_z, gRET_l, gRET_v, lg_0, lg_s, ls1_0, ls1_1, ls1_s, ls2_0, ls2_1, ls2_s, lpad_0, lpad_n, lpad_c, lent_0, lent_i, lent_l, lent_r, lent_n, gsh_si, gsh_sl, gsh_sr, gr_si, gr_sl, gi_sl, gi_sr, gl_si, gl_sr, List.contains_nil, List.contains_cons, Bool.false_eq_true, if_false, if_true, true_and, and_true, true_or, or_true, Nat.le_refl, Nat.zero_le, List.take_succ_cons, List.take_zero, List.drop_succ_cons, List.drop_zero, List.reverse_cons, List.reverse_nil, List.nil_append, List.cons_append, List.append_nil, List.length_cons, List.length_nil, Option.toList_some, Option.toList_none, Nat.add_zero, Nat.zero_add, Nat.reduceAdd, Nat.reduceLT, Nat.reduceLeDiff, Nat.reduceEqDiff, Nat.reduceBEq, Nat.reduceMul, Nat.reduceSub, ↓reduceIte, reduceCtorEq, Int32.reduceLE, Int32.reduceLT, Int32.reduceAdd, Int32.reduceSub, Int32.reduceMul, Int32.reduceToNatClampNeg, Int64.reduceLT, Int64.reduceLE, Bool.or_false, Bool.false_or, Bool.or_true, Bool.true_or, and_false, false_and, or_false, false_or, not_true_eq_false, not_false_eq_true, gcall, glup_c, gbr_T, gbr_F, List.zip_cons_cons, List.zip_nil_right, List.zip_nil_left, List.all_cons, List.all_nil, Bool.and_true, Int.reduceLT, decide_true, decide_eq_true_eq, cmp_eq, cmp_le, cmp_lt, cmp_ge, cmp_gt, b2_e0, b2_e1, bz_e0, bz_e1, gbr_N, ne01, ne10, nem0, nem1, vp_in0, m1lt0, m1ge0, e_X7_in, in03', m0, b1, bb2, b3, b4, b6]
    refine gbr_i (fun h => ?_) (fun h => ?_)
    · rw [if_neg (not_not_intro h)] at hp'
      refine gbr_i (fun h0 => ?_) (fun h0 => ?_)
      · rw [if_pos h0] at hp'; exact hp'
      · rw [if_neg h0] at hp'
        refine gbr_i (fun h1 => ?_) (fun h1 => gbr_i (fun h2 => ?_) (fun h2 => gbr_i (fun h3 => ?_) (fun h3 => ?_)))
        · rw [if_pos h1] at hp'; exact hp'
        · rw [if_neg h1, if_pos h2] at hp'; exact hp'
        · rw [if_neg h1, if_neg h2, if_pos h3] at hp'; exact hp'
        · rw [if_neg h1, if_neg h2, if_neg h3] at hp'; exact hp'
    · rw [if_pos h] at hp'; exact hp'
