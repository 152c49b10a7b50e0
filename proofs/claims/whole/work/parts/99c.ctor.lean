/-! ===== constructors: Row, Act, Elements ===== -/
theorem gatt_int : gatt .int = some 0 := rfl
theorem gatt_long : gatt .long = some 1 := rfl
theorem gatt_boolean : gatt .boolean = some 2 := rfl
def roN (a : Nat) (G : gS) : gS := sr (gnw G (2, 1, 16)) a 0 (some (gsz G))
def S_X3_init : gSp := fun av G post => ∃ (a : Nat), av = [.ref a] ∧ gsh G a = (1, 3, 0) ∧ a < gsz G ∧ post none (roN a G)
set_option maxRecDepth 100000 in
set_option maxHeartbeats 4000000 in
theorem c_X3_init (l : Launch) : gMet l yX3_init cX3_init 1 none 1 1 16 S_X3_init := by
  refine gMet_of 3 true [] (by decide) rfl (by decide) (by first | decide | omega) ?_ ?_ ?_
  · rintro av G post ⟨a, rfl, -⟩; exact Nat.le_of_ble_eq_true rfl
  · intro p e s m args below meth c D base Q B
    exact fun _ h => absurd h List.not_mem_nil
  · rintro p e s m args below meth c D base av G post ⟨a, rfl, h1, h2, hp⟩ O
    have e1 : ∀ sh, gsh (gnw G sh) a = (1, 3, 0) := fun sh => by rw [gsh_nw, if_neg (by omega)]; exact h1
    refine gw1_ok (cuts := []) O 100 ?_
    simp only [gwp_s dX3_init_0, gw1_s dX3_init_0, gwp_s dX3_init_1, gw1_s dX3_init_1, gwp_s dX3_init_4, gw1_s dX3_init_4, gwp_s dX3_init_5, gw1_s dX3_init_5, gwp_s dX3_init_7, gw1_s dX3_init_7, gwp_s dX3_init_9, gw1_s dX3_init_9, gwp_s dX3_init_12, gw1_s dX3_init_12, cty_3_0, fl_3_9, gatt_long, gx_aload_n_0, gx_bipush_16, gx_invokespecial, gx_newarray, gx_putfield, gx_return_, oi_3_3, gn_self, g1i_c, g2i_c, g1l_c, g2l_c, gil_c, g1r_c, g1q_c, g1q_n, goq_c, gvr_c, gir_c, giir_c, glir_c, gqir_c, gqir_n, gdup_i, gdup_r, gdup2_l, gdup2_ir, gdup2_ii, goi_c, gol_c, gor_c, gor_n, gpv_i, gpv_z, gpv_l, gpv_o, gpv_a, fval_i, fval_z, fval_l, fval_o, fval_a, va_rf_s, va_rf_n, lnw_i, lnw_r, lnw_n, lnw_0, lnw_l, gcat_0, gcat_i, gcat_l, gcat_r, gcat_n, grcv_0, grcv_s, gRET_i, gRET_z, gRET_l, gRET_v, lg_0, lg_s, ls1_0, ls1_1, ls1_s, ls2_0, ls2_1, ls2_s, lpad_0, lpad_n, lpad_c, lent_0, lent_i, lent_l, lent_r, lent_n, gsh_si, gsh_sl, gsh_sr, gr_si, gr_sl, gi_sl, gi_sr, gl_si, gl_sr, List.contains_nil, List.contains_cons, Bool.false_eq_true, if_false, if_true, true_and, and_true, true_or, or_true, Nat.le_refl, Nat.zero_le, List.take_succ_cons, List.take_zero, List.drop_succ_cons, List.drop_zero, List.reverse_cons, List.reverse_nil, List.nil_append, List.cons_append, List.append_nil, List.length_cons, List.length_nil, Option.toList_some, Option.toList_none, Nat.add_zero, Nat.zero_add, Nat.reduceAdd, Nat.reduceLT, Nat.reduceLeDiff, Nat.reduceEqDiff, Nat.reduceBEq, Nat.reduceMul, Nat.reduceSub, ↓reduceIte, reduceCtorEq, Int32.reduceLE, Int32.reduceLT, Int32.reduceAdd, Int32.reduceSub, Int32.reduceMul, Int32.reduceToNatClampNeg, Int64.reduceLT, Int64.reduceLE, Bool.or_false, Bool.false_or, Bool.or_true, Bool.true_or, and_false, false_and, or_false, false_or, not_true_eq_false, not_false_eq_true, gcall, glup_c, gbr_T, gbr_F, List.zip_cons_cons, List.zip_nil_right, List.zip_nil_left, List.all_cons, List.all_nil, Bool.and_true, Int.reduceLT, decide_true, decide_eq_true_eq, cmp_eq, cmp_le, cmp_lt, cmp_ge, cmp_gt, b2_e0, b2_e1, bz_e0, bz_e1, gbr_N, ne01, ne10, nem0, nem1, vp_in0, m1lt0, m1ge0, h1, e1]
    exact hp
def acN (a : Nat) (G : gS) : gS := sr (gnw (sr (gnw G (2, 0, 4)) a 0 (some (gsz G))) (2, 1, 4)) a 1 (some (gsz G + 1))
def S_X0_init : gSp := fun av G post => ∃ (a : Nat), av = [.ref a] ∧ gsh G a = (1, 0, 0) ∧ a < gsz G ∧ post none (acN a G)
set_option maxRecDepth 100000 in
set_option maxHeartbeats 4000000 in
theorem c_X0_init (l : Launch) : gMet l yX0_init cX0_init 1 none 1 2 8 S_X0_init := by
  refine gMet_of 0 true [] (by decide) rfl (by decide) (by first | decide | omega) ?_ ?_ ?_
  · rintro av G post ⟨a, rfl, -⟩; exact Nat.le_of_ble_eq_true rfl
  · intro p e s m args below meth c D base Q B
    exact fun _ h => absurd h List.not_mem_nil
  · rintro p e s m args below meth c D base av G post ⟨a, rfl, h1, h2, hp⟩ O
    have e1 : ∀ sh, gsh (gnw G sh) a = (1, 0, 0) := fun sh => by rw [gsh_nw, if_neg (by omega)]; exact h1
    have e2 : ∀ sh sh' v, gsh (gnw (sr (gnw G sh) a 0 v) sh') a = (1, 0, 0) := fun sh sh' v => by rw [gsh_nw, if_neg (by rw [gsz_sr, gsz_nw]; omega)]; exact e1 sh
    refine gw1_ok (cuts := []) O 100 ?_
    simp only [gwp_s dX0_init_0, gw1_s dX0_init_0, gwp_s dX0_init_1, gw1_s dX0_init_1, gwp_s dX0_init_4, gw1_s dX0_init_4, gwp_s dX0_init_5, gw1_s dX0_init_5, gwp_s dX0_init_6, gw1_s dX0_init_6, gwp_s dX0_init_8, gw1_s dX0_init_8, gwp_s dX0_init_11, gw1_s dX0_init_11, gwp_s dX0_init_12, gw1_s dX0_init_12, gwp_s dX0_init_13, gw1_s dX0_init_13, gwp_s dX0_init_15, gw1_s dX0_init_15, gwp_s dX0_init_18, gw1_s dX0_init_18, cty_0_0, cty_0_1, fl_0_15, fl_0_9, gatt_int, gatt_long, gx_aload_n_0, gx_iconst_4, gx_invokespecial, gx_newarray, gx_putfield, gx_return_, oi_0_3, gn_self, g1i_c, g2i_c, g1l_c, g2l_c, gil_c, g1r_c, g1q_c, g1q_n, goq_c, gvr_c, gir_c, giir_c, glir_c, gqir_c, gqir_n, gdup_i, gdup_r, gdup2_l, gdup2_ir, gdup2_ii, goi_c, gol_c, gor_c, gor_n, gpv_i, gpv_z, gpv_l, gpv_o, gpv_a, fval_i, fval_z, fval_l, fval_o, fval_a, va_rf_s, va_rf_n, lnw_i, lnw_r, lnw_n, lnw_0, lnw_l, gcat_0, gcat_i, gcat_l, gcat_r, gcat_n, grcv_0, grcv_s, gRET_i, gRET_z, gRET_l, gRET_v, lg_0, lg_s, ls1_0, ls1_1, ls1_s, ls2_0, ls2_1, ls2_s, lpad_0, lpad_n, lpad_c, lent_0, lent_i, lent_l, lent_r, lent_n, gsh_si, gsh_sl, gsh_sr, gr_si, gr_sl, gi_sl, gi_sr, gl_si, gl_sr, List.contains_nil, List.contains_cons, Bool.false_eq_true, if_false, if_true, true_and, and_true, true_or, or_true, Nat.le_refl, Nat.zero_le, List.take_succ_cons, List.take_zero, List.drop_succ_cons, List.drop_zero, List.reverse_cons, List.reverse_nil, List.nil_append, List.cons_append, List.append_nil, List.length_cons, List.length_nil, Option.toList_some, Option.toList_none, Nat.add_zero, Nat.zero_add, Nat.reduceAdd, Nat.reduceLT, Nat.reduceLeDiff, Nat.reduceEqDiff, Nat.reduceBEq, Nat.reduceMul, Nat.reduceSub, ↓reduceIte, reduceCtorEq, Int32.reduceLE, Int32.reduceLT, Int32.reduceAdd, Int32.reduceSub, Int32.reduceMul, Int32.reduceToNatClampNeg, Int64.reduceLT, Int64.reduceLE, Bool.or_false, Bool.false_or, Bool.or_true, Bool.true_or, and_false, false_and, or_false, false_or, not_true_eq_false, not_false_eq_true, gcall, glup_c, gbr_T, gbr_F, List.zip_cons_cons, List.zip_nil_right, List.zip_nil_left, List.all_cons, List.all_nil, Bool.and_true, Int.reduceLT, decide_true, decide_eq_true_eq, cmp_eq, cmp_le, cmp_lt, cmp_ge, cmp_gt, b2_e0, b2_e1, bz_e0, bz_e1, gbr_N, ne01, ne10, nem0, nem1, vp_in0, m1lt0, m1ge0, h1, e1, e2, gsz_sr, gsz_nw]
    exact hp
