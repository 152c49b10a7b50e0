/-! ===== FusionRules$Row ===== -/
def b2 (p : Prop) [Decidable p] : Int32 := if p then 1 else 0
def S_X3_has : gSp := fun av G post => ∃ (a : Nat) (i : Int32), av = [.ref a, .int i] ∧ gsh G a = (1, 3, 0) ∧ post (some (.int (b2 (0 ≤ i ∧ i < gi G a 2)))) G
set_option maxRecDepth 100000 in
set_option maxHeartbeats 4000000 in
theorem c_X3_has (l : Launch) : gMet l yX3_has cX3_has 2 (some .boolean) 1 0 0 S_X3_has := by
  refine gMet_of 3 false [] (by decide) rfl (by decide) (by decide) ?_ ?_ ?_
  · rintro av G post ⟨a, i, rfl, -⟩; decide
  · intro p e s m args below meth c D base Q B q hq; cases hq
  · rintro p e s m args below meth c D base av G post ⟨a, i, rfl, hsh, hp⟩ O
    refine gw1_ok (cuts := []) O 100 ?_
    simp only [gwp_s dX3_has_0, gw1_s dX3_has_0, gwp_s dX3_has_1, gw1_s dX3_has_1, gwp_s dX3_has_4, gw1_s dX3_has_4, gwp_s dX3_has_5, gw1_s dX3_has_5, gwp_s dX3_has_6, gw1_s dX3_has_6, gwp_s dX3_has_9, gw1_s dX3_has_9, gwp_s dX3_has_12, gw1_s dX3_has_12, gwp_s dX3_has_13, gw1_s dX3_has_13, gwp_s dX3_has_16, gw1_s dX3_has_16, gwp_s dX3_has_17, gw1_s dX3_has_17, cty_3_2, fl_3_25, gtg_eq 1 15 16 (by decide), gtg_eq 13 4 17 (by decide), gtg_eq 9 7 16 (by decide), gx_aload_n_0, gx_getfield, gx_goto, gx_iconst_0, gx_iconst_1, gx_ifCond_lt, gx_if_icmp_ge, gx_iload_n_1, gx_ireturn, gn_self, g1i_c, g2i_c, g1l_c, g2l_c, gil_c, g1r_c, g1q_c, g1q_n, goq_c, gvr_c, gir_c, giir_c, glir_c, gqir_c, gqir_n, gdup_i, gdup_r, gdup2_l, gdup2_ir, gdup2_ii, goi_c, gol_c, gor_c, gor_n, gpv_i, gpv_z, gpv_l, gpv_o, gpv_a, fval_i, fval_z, fval_l, fval_o, fval_a, va_rf_s, va_rf_n, lnw_i, lnw_r, lnw_n, lnw_0, lnw_l, gcat_0, gcat_i, gcat_l, gcat_r, gcat_n, grcv_0, grcv_s, gRET_i, gRET_z, gRET_l, gRET_v, lg_0, lg_s, ls1_0, ls1_1, ls1_s, ls2_0, ls2_1, ls2_s, lpad_0, lpad_n, lpad_c, lent_0, lent_i, lent_l, lent_r, lent_n, gsh_si, gsh_sl, gsh_sr, gr_si, gr_sl, gi_sl, gi_sr, gl_si, gl_sr, List.contains_nil, List.contains_cons, Bool.false_eq_true, if_false, if_true, true_and, and_true, Nat.le_refl, Nat.zero_le, List.take_succ_cons, List.take_zero, List.drop_succ_cons, List.drop_zero, List.reverse_cons, List.reverse_nil, List.nil_append, List.cons_append, List.append_nil, List.length_cons, List.length_nil, Option.toList_some, Option.toList_none, Nat.add_zero, Nat.zero_add, hsh]
    trace_state
    sorry
