/-! ===== the reference: mean, thrown ===== -/
def qMean (S : sS) : Int32 := if S.2.2.2.2.2.2.1.1 = S.2.2.2.2.2.2.1.2.1 + S.2.2.2.2.2.2.1.2.2.1 then 0 else nI (S.2.2.2.2.2.2.1.2.2.2 / (S.2.2.2.2.2.2.1.1 - S.2.2.2.2.2.2.1.2.1 - S.2.2.2.2.2.2.1.2.2.1))
def S_X7_thrown : gSp := fun av G post => ∃ (M : Nat), av = [.ref M] ∧ gsh G M = (1, 6, 0) ∧ post (some (.int (gi G M 0))) G
set_option maxRecDepth 100000 in
set_option maxHeartbeats 4000000 in
theorem c_X7_thrown (l : Launch) : gMet l yX7_thrown cX7_thrown 1 (some .int) 1 0 0 S_X7_thrown := by
  refine gMet_of 7 false [] (by decide) rfl (by decide) (by first | decide | omega) ?_ ?_ ?_
  · rintro av G post ⟨M, rfl, -⟩; exact Nat.le_of_ble_eq_true rfl
  · intro p e s m args below meth c D base Q B
    exact fun _ h => absurd h List.not_mem_nil
  · rintro p e s m args below meth c D base av G post ⟨M, rfl, m0, hp⟩ O
    refine gw1_ok (cuts := []) O 100 ?_
    simp only [gwp_s dX7_thrown_0, gw1_s dX7_thrown_0, gwp_s dX7_thrown_1, gw1_s dX7_thrown_1, gwp_s dX7_thrown_4, gw1_s dX7_thrown_4, cty_6_0, fl_7_87, gx_aload_n_0, gx_getfield, gx_ireturn, gn_self, g1i_c, g2i_c, g1l_c, g2l_c, gil_c, g1r_c, g1q_c, g1q_n, goq_c, gvr_c, gir_c, giir_c, glir_c, gqir_c, gqir_n, gdup_i, gdup_r, gdup2_l, gdup2_ir, gdup2_ii, goi_c, gol_c, gor_c, gor_n, gpv_i, gpv_z, gpv_l, gpv_o, gpv_a, fval_i, fval_z, fval_l, fval_o, fval_a, va_rf_s, va_rf_n, lnw_i, lnw_r, lnw_n, lnw_0, lnw_l, gcat_0, gcat_i, gcat_l, gcat_r, gcat_n, grcv_0, grcv_s, gRET_i, gRET_z, gRET_l, gRET_v, lg_0, lg_s, ls1_0, ls1_1, ls1_s, ls2_0, ls2_1, ls2_s, lpad_0, lpad_n, lpad_c, lent_0, lent_i, lent_l, lent_r, lent_n, gsh_si, gsh_sl, gsh_sr, gr_si, gr_sl, gi_sl, gi_sr, gl_si, gl_sr, List.contains_nil, List.contains_cons, Bool.false_eq_true, if_false, if_true, true_and, and_true, true_or, or_true, Nat.le_refl, Nat.zero_le, List.take_succ_cons, List.take_zero, List.drop_succ_cons, List.drop_zero, List.reverse_cons, List.reverse_nil, List.nil_append, List.cons_append, List.append_nil, List.length_cons, List.length_nil, Option.toList_some, Option.toList_none, Nat.add_zero, Nat.zero_add, Nat.reduceAdd, Nat.reduceLT, Nat.reduceLeDiff, Nat.reduceEqDiff, Nat.reduceBEq, Nat.reduceMul, Nat.reduceSub, ↓reduceIte, reduceCtorEq, Int32.reduceLE, Int32.reduceLT, Int32.reduceAdd, Int32.reduceSub, Int32.reduceMul, Int32.reduceToNatClampNeg, Int64.reduceLT, Int64.reduceLE, Bool.or_false, Bool.false_or, Bool.or_true, Bool.true_or, and_false, false_and, or_false, false_or, not_true_eq_false, not_false_eq_true, gcall, glup_c, gbr_T, gbr_F, List.zip_cons_cons, List.zip_nil_right, List.zip_nil_left, List.all_cons, List.all_nil, Bool.and_true, Int.reduceLT, decide_true, decide_eq_true_eq, cmp_eq, cmp_le, cmp_lt, cmp_ge, cmp_gt, b2_e0, b2_e1, bz_e0, bz_e1, gbr_N, ne01, ne10, nem0, nem1, vp_in0, m1lt0, m1ge0, m0]
    exact hp
def S_X7_mean : gSp := fun av G post => ∃ (M : Nat) (S : sS), av = [.ref M] ∧ WM M S G ∧ S.2.2.2.2.2.2.1.2.1 + S.2.2.2.2.2.2.1.2.2.1 ≤ S.2.2.2.2.2.2.1.1 ∧ S.2.2.2.2.2.2.1.1 ≤ 1000000 ∧ S.2.2.2.2.2.2.1.2.2.2 ≤ 800000000 ∧ ∀ G', WM M S G' → frm (mdC M) G G' → gi G' M 0 = (if S.2.2.2.2.2.2.1.1 = S.2.2.2.2.2.2.1.2.1 + S.2.2.2.2.2.2.1.2.2.1 then 1 else 0) → post (some (.int (qMean S))) G'
set_option maxRecDepth 100000 in
set_option maxHeartbeats 4000000 in
theorem c_X7_mean (l : Launch) : gMet l yX7_mean cX7_mean 1 (some .int) 1 0 0 S_X7_mean := by
  refine gMet_of 7 false [] (by decide) rfl (by decide) (by first | decide | omega) ?_ ?_ ?_
  · rintro av G post ⟨M, S, rfl, -⟩; exact Nat.le_of_ble_eq_true rfl
  · intro p e s m args below meth c D base Q B
    exact fun _ h => absurd h List.not_mem_nil
  · rintro p e s m args below meth c D base av G post ⟨M, S, rfl, hW, hle, hb, hc, hp⟩ O
    have m0 := hW.1.1
    have t0 := hW.t (v := 0)
    obtain ⟨b1, bb, b3, b4, -⟩ := t0.2.2.2.2.1
    have e1 : nI S.2.2.2.2.2.2.1.2.1 + nI S.2.2.2.2.2.2.1.2.2.1 = nI (S.2.2.2.2.2.2.1.2.1 + S.2.2.2.2.2.2.1.2.2.1) := nI_ad
    have e2 : (nI S.2.2.2.2.2.2.1.1 = nI (S.2.2.2.2.2.2.1.2.1 + S.2.2.2.2.2.2.1.2.2.1)) = (S.2.2.2.2.2.2.1.1 = S.2.2.2.2.2.2.1.2.1 + S.2.2.2.2.2.2.1.2.2.1) := nI_eq_e (by omega) (by omega)
    have e3 : nI S.2.2.2.2.2.2.1.1 - nI S.2.2.2.2.2.2.1.2.1 = nI (S.2.2.2.2.2.2.1.1 - S.2.2.2.2.2.2.1.2.1) := nI_su (by omega)
    have e4 : nI (S.2.2.2.2.2.2.1.1 - S.2.2.2.2.2.2.1.2.1) - nI S.2.2.2.2.2.2.1.2.2.1 = nI (S.2.2.2.2.2.2.1.1 - S.2.2.2.2.2.2.1.2.1 - S.2.2.2.2.2.2.1.2.2.1) := nI_su (by omega)
    have e5 : (nI (S.2.2.2.2.2.2.1.1 - S.2.2.2.2.2.2.1.2.1 - S.2.2.2.2.2.2.1.2.2.1)).toInt64 = lN (S.2.2.2.2.2.2.1.1 - S.2.2.2.2.2.2.1.2.1 - S.2.2.2.2.2.2.1.2.2.1) := nI_l (by omega)
    have b4' : gl G M 38 = lN S.2.2.2.2.2.2.1.2.2.2 := b4
    refine gw1_ok (cuts := []) O 100 ?_
    simp only [gwp_s dX7_mean_0, gw1_s dX7_mean_0, gwp_s dX7_mean_1, gw1_s dX7_mean_1, gwp_s dX7_mean_2, gw1_s dX7_mean_2, gwp_s dX7_mean_5, gw1_s dX7_mean_5, gwp_s dX7_mean_6, gw1_s dX7_mean_6, gwp_s dX7_mean_9, gw1_s dX7_mean_9, gwp_s dX7_mean_10, gw1_s dX7_mean_10, gwp_s dX7_mean_13, gw1_s dX7_mean_13, gwp_s dX7_mean_14, gw1_s dX7_mean_14, gwp_s dX7_mean_17, gw1_s dX7_mean_17, gwp_s dX7_mean_18, gw1_s dX7_mean_18, gwp_s dX7_mean_21, gw1_s dX7_mean_21, gwp_s dX7_mean_22, gw1_s dX7_mean_22, gwp_s dX7_mean_23, gw1_s dX7_mean_23, gwp_s dX7_mean_26, gw1_s dX7_mean_26, gwp_s dX7_mean_27, gw1_s dX7_mean_27, gwp_s dX7_mean_28, gw1_s dX7_mean_28, gwp_s dX7_mean_29, gw1_s dX7_mean_29, gwp_s dX7_mean_32, gw1_s dX7_mean_32, gwp_s dX7_mean_33, gw1_s dX7_mean_33, gwp_s dX7_mean_36, gw1_s dX7_mean_36, gwp_s dX7_mean_37, gw1_s dX7_mean_37, gwp_s dX7_mean_40, gw1_s dX7_mean_40, gwp_s dX7_mean_41, gw1_s dX7_mean_41, gwp_s dX7_mean_42, gw1_s dX7_mean_42, gwp_s dX7_mean_45, gw1_s dX7_mean_45, gwp_s dX7_mean_46, gw1_s dX7_mean_46, gwp_s dX7_mean_47, gw1_s dX7_mean_47, gwp_s dX7_mean_48, gw1_s dX7_mean_48, gwp_s dX7_mean_49, gw1_s dX7_mean_49, cty_6_0, cty_6_35, cty_6_36, cty_6_37, cty_6_38, fl_7_203, fl_7_206, fl_7_210, fl_7_213, fl_7_87, gtg_eq 18 10 28 (by decide), gx_aload_n_0, gx_getfield, gx_i2l, gx_iadd, gx_iconst_0, gx_iconst_1, gx_if_icmp_ne, gx_ireturn, gx_isub, gx_l2i, gx_ldiv, gx_putfield, gn_self, g1i_c, g2i_c, g1l_c, g2l_c, gil_c, g1r_c, g1q_c, g1q_n, goq_c, gvr_c, gir_c, giir_c, glir_c, gqir_c, gqir_n, gdup_i, gdup_r, gdup2_l, gdup2_ir, gdup2_ii, goi_c, gol_c, gor_c, gor_n, gpv_i, gpv_z, gpv_l, gpv_o, gpv_a, fval_i, fval_z, fval_l, fval_o, fval_a, va_rf_s, va_rf_n, lnw_i, lnw_r, lnw_n, lnw_0, lnw_l, gcat_0, gcat_i, gcat_l, gcat_r, gcat_n, grcv_0, grcv_s, gRET_i, gRET_z, gRET_l, gRET_v, lg_0, lg_s, ls1_0, ls1_1, ls1_s, ls2_0, ls2_1, ls2_s, lpad_0, lpad_n, lpad_c, lent_0, lent_i, lent_l, lent_r, lent_n, gsh_si, gsh_sl, gsh_sr, gr_si, gr_sl, gi_sl, gi_sr, gl_si, gl_sr, List.contains_nil, List.contains_cons, Bool.false_eq_true, if_false, if_true, true_and, and_true, true_or, or_true, Nat.le_refl, Nat.zero_le, List.take_succ_cons, List.take_zero, List.drop_succ_cons, List.drop_zero, List.reverse_cons, List.reverse_nil, List.nil_append, List.cons_append, List.append_nil, List.length_cons, List.length_nil, Option.toList_some, Option.toList_none, Nat.add_zero, Nat.zero_add, Nat.reduceAdd, Nat.reduceLT, Nat.reduceLeDiff, Nat.reduceEqDiff, Nat.reduceBEq, Nat.reduceMul, Nat.reduceSub, ↓reduceIte, reduceCtorEq, Int32.reduceLE, Int32.reduceLT, Int32.reduceAdd, Int32.reduceSub, Int32.reduceMul, Int32.reduceToNatClampNeg, Int64.reduceLT, Int64.reduceLE, Bool.or_false, Bool.false_or, Bool.or_true, Bool.true_or, and_false, false_and, or_false, false_or, not_true_eq_false, not_false_eq_true, gcall, glup_c, gbr_T, gbr_F, List.zip_cons_cons, List.zip_nil_right, List.zip_nil_left, List.all_cons, List.all_nil, Bool.and_true, Int.reduceLT, decide_true, decide_eq_true_eq, cmp_eq, cmp_le, cmp_lt, cmp_ge, cmp_gt, b2_e0, b2_e1, bz_e0, bz_e1, gbr_N, ne01, ne10, nem0, nem1, vp_in0, m1lt0, m1ge0, m0, b1, bb, b3, b4', e1, e2, e3, e4, e5]
    unfold qMean at hp
    refine gbr_i (fun h => ?_) (fun h => ?_)
    · rw [if_pos h, if_pos h] at hp
      exact hp _ t0.t (frm_t (frm_t frm.rf)) gi_eq
    · rw [if_neg h, if_neg h] at hp
      refine ⟨?_, ?_⟩
      · intro q
        have : S.2.2.2.2.2.2.1.1 - S.2.2.2.2.2.2.1.2.1 - S.2.2.2.2.2.2.1.2.2.1 = 0 := (lN_eq (by omega) (by omega)).mp (q.trans rfl)
        omega
      · rw [pk_lDiv (by omega) (by omega) (by omega), lN_i]
        exact hp _ t0 (frm_t frm.rf) gi_eq
def gmore (n : Nat) (G : gS) : gS := (G.1, G.2.1, G.2.2.1, G.2.2.2.1, G.2.2.2.2 + n)
def S_L_mean : gSp := fun av G post => ∃ (X q : Nat) (S : sS), av = [.ref X, .ref q] ∧ WC X S G ∧ gsh G q = (2, 1, 1) ∧ S.2.2.2.2.2.2.1.1 ≤ 1000000 ∧ S.2.2.2.2.2.2.1.2.2.2 ≤ 800000000 ∧ (S.2.2.2.2.2.2.1.1 = S.2.2.2.2.2.2.1.2.1 + S.2.2.2.2.2.2.1.2.2.1 → ∀ n, post (some (.int 1)) (gmore n G)) ∧ (S.2.2.2.2.2.2.1.1 ≠ S.2.2.2.2.2.2.1.2.1 + S.2.2.2.2.2.2.1.2.2.1 → post (some (.int 0)) (sl G q 0 (qMean S).toInt64))
