/-! ===== the reference: ask ===== -/
def S_X7_ask : gSp := fun av G post => ∃ (M j : Nat) (R : sR) (L : List sA) (P : sP) (T : sT), av = [.ref M, .int (nI j)] ∧ RM M j R L P T G ∧ j < 4 ∧ okI R ∧ srcI P ∧ (∀ A ∈ L, okB A) ∧ IT L 0 T ∧ lP T ∧ ¬ tOv T ∧ opn M L T G L.length ∧
  (∀ G', rF M G G' → tOv (askP R L P L.length T).1 → cM M (askP R L P L.length T).1 G' → post none G') ∧
  (∀ G', rF M G G' → ¬ tOv (askP R L P L.length T).1 → RM M j R L P (askP R L P L.length T).1 G' → gi G' M 32 = on1 (askP R L P L.length T).2 → (∀ e, (askP R L P L.length T).2 = some e → opn M L (askP R L P L.length T).1 G' L.length) → post none G')
theorem ent_g {g : sF} {T : sT} (h : ¬ tOv T) (hA : tA T < 400) : entP g T = g (sAk T) := by unfold entP; rw [if_neg h, if_neg (by omega)]
theorem ent_s {g : sF} {T : sT} (h : ¬ tOv T) (hA : 400 ≤ tA T) : entP g T = (sSp T, none) := by unfold entP; rw [if_neg h, if_pos hA]
theorem IT.ak {L : List sA} {j : Nat} {T : sT} (h : IT L j T) (hA : tA T < 400) : IT L (j + 1) (sAk T) := by
  obtain ⟨a1, a2, a3, a4⟩ := h
  exact ⟨by rw [tN_sAk, tA_sAk]; omega, by rw [tP_sAk, tA_sAk]; omega, by rw [tA_sAk]; omega, a4⟩
theorem lP.l {L : List sA} {j : Nat} {T : sT} (h : lP T) (hI : IT L j T) : ∀ v, (tL T v).length ≤ 400 := fun v => by have h1 := h v; have h2 := hI.2.1; have h3 := hI.2.2.1; omega
theorem lvr_x {M v : Nat} {A : sA} {T : sT} {G : gS} (h7 : kd A ≠ 7) (h8 : kd A ≠ 8) (h10 : kd A ≠ 10) (h11 : kd A ≠ 11) : lvr M A v T G := ⟨fun q => absurd q h7, fun q => absurd q h8, fun q => absurd q h10, fun q => absurd q h11⟩
theorem IT.K {L : List sA} {j v : Nat} {x : Int64} {T : sT} (h : IT L j T) (hx : x ≤ lN 100) (hn : ¬ x ≤ lN (tK T v)) : IT L j (sK T v) := by
  obtain ⟨a1, a2, a3, a4, a5, a6, a7, a8, a9⟩ := h
  refine ⟨a1, a2, a3, a4, a5, a6, a7, a8, fun k => ?_⟩
  rw [tK_sK]
  unfold va_up
  split
  · have h2 : lN (tK T v) < lN 100 := Int64.lt_of_lt_of_le (Int64.not_le.mp hn) hx
    rw [lN_lt (by have := a9 v; omega) (by omega)] at h2
    omega
  · exact a9 k
theorem IT.P {L : List sA} {j v e : Nat} {T : sT} (h : IT L j T) (he : e < tN T) (hp : tP T + j + 1 ≤ tA T) : IT L j (sPush T v e) := by
  obtain ⟨a1, a2, a3, a4, a5, a6, a7⟩ := h
  refine ⟨a1, ?_, a3, a4, fun k' e' he' => ?_, a6, a7⟩
  · show tP T + 1 + j ≤ tA T
    omega
  · rw [tL_sPush] at he'
    unfold va_up at he'
    split at he'
    · rcases List.mem_cons.mp he' with rfl | he'
      · exact he
      · exact a5 _ _ he'
    · exact a5 _ _ he'
theorem lN_ds {x : Int64} {n : Nat} (h : lN n < x) (hn : n < 1000000) : ¬ x < lN (n + 1) := by
  intro q
  rw [Int64.lt_iff_toInt_lt, lN_toInt (by omega)] at h
  rw [Int64.lt_iff_toInt_lt, lN_toInt (by omega)] at q
  omega
theorem lN_di {x : Int64} {n : Nat} (h : ¬ lN n < x) (hn : n < 1000000) : x < lN (n + 1) := by
  rw [Int64.lt_iff_toInt_lt, lN_toInt (by omega)] at h
  rw [Int64.lt_iff_toInt_lt, lN_toInt (by omega)]
  omega
theorem lN_dl {x : Int64} {n : Nat} (h : lN n < x) (hn : n < 1000000) : lN (n + 1) ≤ x := Int64.not_lt.mp (lN_ds h hn)
theorem on1_n' : on1 none = -1 := rfl
theorem on1_s' {e : Nat} : on1 (some e) = nI e := rfl
set_option maxRecDepth 100000 in
set_option maxHeartbeats 4000000 in
theorem c_X7_ask (l : Launch) : gMet l yX7_ask cX7_ask 5 none 7 0 0 S_X7_ask := by
  refine gMet_of 7 false [(176, 1, 7, S_X7_isEnded, 0, 0), (183, 2, 7, S_X7_askSource, 0, 0), (186, 3, 7, S_X7_answersAtOnce, 0, 0), (189, 3, 7, S_X7_hears, 0, 0)] (by decide) rfl (by decide) (by first | decide | omega) ?_ ?_ ?_
  · rintro av G post ⟨M, j, R, L, P, T, rfl, -⟩; exact Nat.le_of_ble_eq_true rfl
  · intro p e s m args below meth c D base Q B
    exact List.forall_mem_cons.mpr ⟨gCO_V B (c_X7_isEnded l) mV_X7_isEnded ml_7_176 (by decide) ⟨Nat.le_of_ble_eq_true rfl, Nat.le_of_ble_eq_true rfl⟩, List.forall_mem_cons.mpr ⟨gCO_V B (c_X7_askSource l) mV_X7_askSource ml_7_183 (by decide) ⟨Nat.le_of_ble_eq_true rfl, Nat.le_of_ble_eq_true rfl⟩, List.forall_mem_cons.mpr ⟨gCO_V B (c_X7_answersAtOnce l) mV_X7_answersAtOnce ml_7_186 (by decide) ⟨Nat.le_of_ble_eq_true rfl, Nat.le_of_ble_eq_true rfl⟩, List.forall_mem_cons.mpr ⟨gCO_V B (c_X7_hears l) mV_X7_hears ml_7_189 (by decide) ⟨Nat.le_of_ble_eq_true rfl, Nat.le_of_ble_eq_true rfl⟩, fun _ h => absurd h List.not_mem_nil⟩⟩⟩⟩
  · rintro p e s m args below meth c D base av G post ⟨M, j, R, L, P, T0', rfl, hR0, hj, hI, hP, hB, hIT0, hlP0, hov0, hop0, hE0, hA0⟩ O
    obtain ⟨m0, m1, m2, m3, m4, m5, m6, m7, m8, m9, m10, m11, m12, m13, m14, m15, m16, m17, m18, m19, m20, m21, m22, m23, m24, m25, ms1, ms2, ms3, ms4, ms5, ms6, ms7, ms8, ms9, ms10, ms11, ms12, ms13, ms14, ms15, ms16, ms17, ms18, ms19, ms20, ms21, ms22, ms23, ms24, ms25⟩ := id hR0.1.1
    have hL10 := hR0.1.2.2.2.2.2.2.2.1
    have hOA : ∀ A ∈ L, okA A := fun A hA => (hB A hA).1
    -- the head: it isn't over
    have hd : ∀ (x d : Int32) (T : sT) (G1 : gS), RM M j R L P T G1 → ¬ tOv T → tF T ≤ 4 → gW p l e (grm 7 0 0) s m args below meth c D base 5 (MQ below (gQ D base post) args s 0 0 fun q => base ≤ q) 0 0 16 [some (.ref M), some (.int (nI j)), some (.int x), some (.int d), none] [] G1 → gW p l e (grm 7 0 0) s m args below meth c D base 5 (MQ below (gQ D base post) args s 0 0 fun q => base ≤ q) 0 0 9 [some (.ref M), some (.int (nI j)), some (.int x), some (.int d), none] [] G1 := by
      intro x d T G1 hR hov hF hK
      refine gw1_ok (cuts := [16]) O 100 ?_
      simp only [gwp_s dX7_ask_0, gw1_s dX7_ask_0, gwp_s dX7_ask_1, gw1_s dX7_ask_1, gwp_s dX7_ask_4, gw1_s dX7_ask_4, gwp_s dX7_ask_5, gw1_s dX7_ask_5, gwp_s dX7_ask_6, gw1_s dX7_ask_6, gwp_s dX7_ask_7, gw1_s dX7_ask_7, gwp_s dX7_ask_8, gw1_s dX7_ask_8, gwp_s dX7_ask_9, gw1_s dX7_ask_9, gwp_s dX7_ask_10, gw1_s dX7_ask_10, gwp_s dX7_ask_13, gw1_s dX7_ask_13, gwp_s dX7_ask_16, gw1_s dX7_ask_16, gwp_s dX7_ask_18, gw1_s dX7_ask_18, gwp_s dX7_ask_19, gw1_s dX7_ask_19, gwp_s dX7_ask_20, gw1_s dX7_ask_20, gwp_s dX7_ask_21, gw1_s dX7_ask_21, gwp_s dX7_ask_22, gw1_s dX7_ask_22, gwp_s dX7_ask_23, gw1_s dX7_ask_23, gwp_s dX7_ask_24, gw1_s dX7_ask_24, gwp_s dX7_ask_26, gw1_s dX7_ask_26, gwp_s dX7_ask_27, gw1_s dX7_ask_27, gwp_s dX7_ask_30, gw1_s dX7_ask_30, gwp_s dX7_ask_31, gw1_s dX7_ask_31, gwp_s dX7_ask_34, gw1_s dX7_ask_34, gwp_s dX7_ask_37, gw1_s dX7_ask_37, gwp_s dX7_ask_40, gw1_s dX7_ask_40, gwp_s dX7_ask_41, gw1_s dX7_ask_41, gwp_s dX7_ask_42, gw1_s dX7_ask_42, gwp_s dX7_ask_45, gw1_s dX7_ask_45, gwp_s dX7_ask_46, gw1_s dX7_ask_46, gwp_s dX7_ask_47, gw1_s dX7_ask_47, gwp_s dX7_ask_48, gw1_s dX7_ask_48, gwp_s dX7_ask_51, gw1_s dX7_ask_51, gwp_s dX7_ask_52, gw1_s dX7_ask_52, gwp_s dX7_ask_53, gw1_s dX7_ask_53, gwp_s dX7_ask_56, gw1_s dX7_ask_56, gwp_s dX7_ask_57, gw1_s dX7_ask_57, gwp_s dX7_ask_60, gw1_s dX7_ask_60, gwp_s dX7_ask_61, gw1_s dX7_ask_61, gwp_s dX7_ask_62, gw1_s dX7_ask_62, gwp_s dX7_ask_65, gw1_s dX7_ask_65, gwp_s dX7_ask_66, gw1_s dX7_ask_66, gwp_s dX7_ask_67, gw1_s dX7_ask_67, gwp_s dX7_ask_70, gw1_s dX7_ask_70, gwp_s dX7_ask_71, gw1_s dX7_ask_71, gwp_s dX7_ask_72, gw1_s dX7_ask_72, gwp_s dX7_ask_74, gw1_s dX7_ask_74, gwp_s dX7_ask_77, gw1_s dX7_ask_77, gwp_s dX7_ask_80, gw1_s dX7_ask_80, gwp_s dX7_ask_81, gw1_s dX7_ask_81, gwp_s dX7_ask_82, gw1_s dX7_ask_82, gwp_s dX7_ask_85, gw1_s dX7_ask_85, gwp_s dX7_ask_88, gw1_s dX7_ask_88, gwp_s dX7_ask_91, gw1_s dX7_ask_91, gwp_s dX7_ask_92, gw1_s dX7_ask_92, gwp_s dX7_ask_93, gw1_s dX7_ask_93, gwp_s dX7_ask_96, gw1_s dX7_ask_96, gwp_s dX7_ask_97, gw1_s dX7_ask_97, gwp_s dX7_ask_98, gw1_s dX7_ask_98, gwp_s dX7_ask_101, gw1_s dX7_ask_101, gwp_s dX7_ask_102, gw1_s dX7_ask_102, gwp_s dX7_ask_105, gw1_s dX7_ask_105, gwp_s dX7_ask_108, gw1_s dX7_ask_108, gwp_s dX7_ask_109, gw1_s dX7_ask_109, gwp_s dX7_ask_110, gw1_s dX7_ask_110, gwp_s dX7_ask_112, gw1_s dX7_ask_112, gwp_s dX7_ask_115, gw1_s dX7_ask_115, gwp_s dX7_ask_118, gw1_s dX7_ask_118, gwp_s dX7_ask_121, gw1_s dX7_ask_121, gwp_s dX7_ask_122, gw1_s dX7_ask_122, gwp_s dX7_ask_123, gw1_s dX7_ask_123, gwp_s dX7_ask_126, gw1_s dX7_ask_126, gwp_s dX7_ask_127, gw1_s dX7_ask_127, gwp_s dX7_ask_128, gw1_s dX7_ask_128, gwp_s dX7_ask_131, gw1_s dX7_ask_131, gwp_s dX7_ask_132, gw1_s dX7_ask_132, gwp_s dX7_ask_133, gw1_s dX7_ask_133, gwp_s dX7_ask_136, gw1_s dX7_ask_136, gwp_s dX7_ask_137, gw1_s dX7_ask_137, gwp_s dX7_ask_140, gw1_s dX7_ask_140, gwp_s dX7_ask_143, gw1_s dX7_ask_143, cty_6_22, cty_6_25, cty_6_8, fl_7_145, fl_7_180, fl_7_32, gtg_eq 105 (-96) 9 (by decide), gtg_eq 115 11 126 (by decide), gtg_eq 123 (-114) 9 (by decide), gtg_eq 13 130 143 (by decide), gtg_eq 133 4 137 (by decide), gtg_eq 140 (-131) 9 (by decide), gtg_eq 27 81 108 (by decide), gtg_eq 37 9 46 (by decide), gtg_eq 57 13 70 (by decide), gtg_eq 67 24 91 (by decide), gtg_eq 77 8 85 (by decide), gtg_eq 82 9 91 (by decide), gtg_eq 88 (-79) 9 (by decide), gtg_eq 98 4 102 (by decide), gx_aload_n_0, gx_bipush_10, gx_dup, gx_getfield, gx_goto, gx_iadd, gx_iaload, gx_iconst_0, gx_iconst_1, gx_ifCond_eq, gx_ifCond_ne, gx_if_icmp_ne, gx_iinc_1, gx_iinc_m1, gx_iload, gx_iload_n_1, gx_iload_n_2, gx_iload_n_3, gx_imul, gx_invokevirtual, gx_istore, gx_istore_n_2, gx_istore_n_3, gx_isub, gx_putfield, gx_return_, gx_sipush_400, gn_self, g1i_c, g2i_c, g1l_c, g2l_c, gil_c, g1r_c, g1q_c, g1q_n, goq_c, gvr_c, gir_c, giir_c, glir_c, gqir_c, gqir_n, gdup_i, gdup_r, gdup2_l, gdup2_ir, gdup2_ii, goi_c, gol_c, gor_c, gor_n, gpv_i, gpv_z, gpv_l, gpv_o, gpv_a, fval_i, fval_z, fval_l, fval_o, fval_a, va_rf_s, va_rf_n, lnw_i, lnw_r, lnw_n, lnw_0, lnw_l, gcat_0, gcat_i, gcat_l, gcat_r, gcat_n, grcv_0, grcv_s, gRET_i, gRET_z, gRET_l, gRET_v, lg_0, lg_s, ls1_0, ls1_1, ls1_s, ls2_0, ls2_1, ls2_s, lpad_0, lpad_n, lpad_c, lent_0, lent_i, lent_l, lent_r, lent_n, gsh_si, gsh_sl, gsh_sr, gr_si, gr_sl, gi_sl, gi_sr, gl_si, gl_sr, List.contains_nil, List.contains_cons, Bool.false_eq_true, if_false, if_true, true_and, and_true, true_or, or_true, Nat.le_refl, Nat.zero_le, List.take_succ_cons, List.take_zero, List.drop_succ_cons, List.drop_zero, List.reverse_cons, List.reverse_nil, List.nil_append, List.cons_append, List.append_nil, List.length_cons, List.length_nil, Option.toList_some, Option.toList_none, Nat.add_zero, Nat.zero_add, Nat.reduceAdd, Nat.reduceLT, Nat.reduceLeDiff, Nat.reduceEqDiff, Nat.reduceBEq, Nat.reduceMul, Nat.reduceSub, ↓reduceIte, reduceCtorEq, Int32.reduceLE, Int32.reduceLT, Int32.reduceAdd, Int32.reduceSub, Int32.reduceMul, Int32.reduceToNatClampNeg, Int64.reduceLT, Int64.reduceLE, Bool.or_false, Bool.false_or, Bool.or_true, Bool.true_or, and_false, false_and, or_false, false_or, not_true_eq_false, not_false_eq_true, gcall, glup_c, gbr_T, gbr_F, List.zip_cons_cons, List.zip_nil_right, List.zip_nil_left, List.all_cons, List.all_nil, Bool.and_true, Int.reduceLT, decide_true, decide_eq_true_eq, cmp_eq, cmp_le, cmp_lt, cmp_ge, cmp_gt, b2_e0, b2_e1, bz_e0, bz_e1, gbr_N, ne01, ne10, nem0, nem1, vp_in0, m1lt0, m1ge0, hR.1.1.1]
      refine ⟨M, T, rfl, hR.1.1.1, hR.2.1, hF, fun q => absurd q hov, fun _ => ?_⟩
      simp only [gn_self, g1i_c, g2i_c, g1l_c, g2l_c, gil_c, g1r_c, g1q_c, g1q_n, goq_c, gvr_c, gir_c, giir_c, glir_c, gqir_c, gqir_n, gdup_i, gdup_r, gdup2_l, gdup2_ir, gdup2_ii, goi_c, gol_c, gor_c, gor_n, gpv_i, gpv_z, gpv_l, gpv_o, gpv_a, fval_i, fval_z, fval_l, fval_o, fval_a, va_rf_s, va_rf_n, lnw_i, lnw_r, lnw_n, lnw_0, lnw_l, gcat_0, gcat_i, gcat_l, gcat_r, gcat_n, grcv_0, grcv_s, gRET_i, gRET_z, gRET_l, gRET_v, lg_0, lg_s, ls1_0, ls1_1, ls1_s, ls2_0, ls2_1, ls2_s, lpad_0, lpad_n, lpad_c, lent_0, lent_i, lent_l, lent_r, lent_n, gsh_si, gsh_sl, gsh_sr, gr_si, gr_sl, gi_sl, gi_sr, gl_si, gl_sr, List.contains_nil, List.contains_cons, Bool.false_eq_true, if_false, if_true, true_and, and_true, true_or, or_true, Nat.le_refl, Nat.zero_le, List.take_succ_cons, List.take_zero, List.drop_succ_cons, List.drop_zero, List.reverse_cons, List.reverse_nil, List.nil_append, List.cons_append, List.append_nil, List.length_cons, List.length_nil, Option.toList_some, Option.toList_none, Nat.add_zero, Nat.zero_add, Nat.reduceAdd, Nat.reduceLT, Nat.reduceLeDiff, Nat.reduceEqDiff, Nat.reduceBEq, Nat.reduceMul, Nat.reduceSub, ↓reduceIte, reduceCtorEq, Int32.reduceLE, Int32.reduceLT, Int32.reduceAdd, Int32.reduceSub, Int32.reduceMul, Int32.reduceToNatClampNeg, Int64.reduceLT, Int64.reduceLE, Bool.or_false, Bool.false_or, Bool.or_true, Bool.true_or, and_false, false_and, or_false, false_or, not_true_eq_false, not_false_eq_true, gcall, glup_c, gbr_T, gbr_F, List.zip_cons_cons, List.zip_nil_right, List.zip_nil_left, List.all_cons, List.all_nil, Bool.and_true, Int.reduceLT, decide_true, decide_eq_true_eq, cmp_eq, cmp_le, cmp_lt, cmp_ge, cmp_gt, b2_e0, b2_e1, bz_e0, bz_e1, gbr_N, ne01, ne10, nem0, nem1, vp_in0, m1lt0, m1ge0]
      exact hK
    -- the head: it is over
    have hx : ∀ (x d : Int32) (T : sT) (G1 : gS), rF M G G1 → cM M T G1 → tOv T → tF T ≤ 4 → post none G1 → gW p l e (grm 7 0 0) s m args below meth c D base 5 (MQ below (gQ D base post) args s 0 0 fun q => base ≤ q) 0 0 9 [some (.ref M), some (.int (nI j)), some (.int x), some (.int d), none] [] G1 := by
      intro x d T G1 hf hc hov hF hK
      have s0 : gsh G1 M = (1, 6, 0) := by rw [hf.1.2.1]; exact m0
      refine gw1_ok (cuts := [16]) O 100 ?_
      simp only [gwp_s dX7_ask_0, gw1_s dX7_ask_0, gwp_s dX7_ask_1, gw1_s dX7_ask_1, gwp_s dX7_ask_4, gw1_s dX7_ask_4, gwp_s dX7_ask_5, gw1_s dX7_ask_5, gwp_s dX7_ask_6, gw1_s dX7_ask_6, gwp_s dX7_ask_7, gw1_s dX7_ask_7, gwp_s dX7_ask_8, gw1_s dX7_ask_8, gwp_s dX7_ask_9, gw1_s dX7_ask_9, gwp_s dX7_ask_10, gw1_s dX7_ask_10, gwp_s dX7_ask_13, gw1_s dX7_ask_13, gwp_s dX7_ask_16, gw1_s dX7_ask_16, gwp_s dX7_ask_18, gw1_s dX7_ask_18, gwp_s dX7_ask_19, gw1_s dX7_ask_19, gwp_s dX7_ask_20, gw1_s dX7_ask_20, gwp_s dX7_ask_21, gw1_s dX7_ask_21, gwp_s dX7_ask_22, gw1_s dX7_ask_22, gwp_s dX7_ask_23, gw1_s dX7_ask_23, gwp_s dX7_ask_24, gw1_s dX7_ask_24, gwp_s dX7_ask_26, gw1_s dX7_ask_26, gwp_s dX7_ask_27, gw1_s dX7_ask_27, gwp_s dX7_ask_30, gw1_s dX7_ask_30, gwp_s dX7_ask_31, gw1_s dX7_ask_31, gwp_s dX7_ask_34, gw1_s dX7_ask_34, gwp_s dX7_ask_37, gw1_s dX7_ask_37, gwp_s dX7_ask_40, gw1_s dX7_ask_40, gwp_s dX7_ask_41, gw1_s dX7_ask_41, gwp_s dX7_ask_42, gw1_s dX7_ask_42, gwp_s dX7_ask_45, gw1_s dX7_ask_45, gwp_s dX7_ask_46, gw1_s dX7_ask_46, gwp_s dX7_ask_47, gw1_s dX7_ask_47, gwp_s dX7_ask_48, gw1_s dX7_ask_48, gwp_s dX7_ask_51, gw1_s dX7_ask_51, gwp_s dX7_ask_52, gw1_s dX7_ask_52, gwp_s dX7_ask_53, gw1_s dX7_ask_53, gwp_s dX7_ask_56, gw1_s dX7_ask_56, gwp_s dX7_ask_57, gw1_s dX7_ask_57, gwp_s dX7_ask_60, gw1_s dX7_ask_60, gwp_s dX7_ask_61, gw1_s dX7_ask_61, gwp_s dX7_ask_62, gw1_s dX7_ask_62, gwp_s dX7_ask_65, gw1_s dX7_ask_65, gwp_s dX7_ask_66, gw1_s dX7_ask_66, gwp_s dX7_ask_67, gw1_s dX7_ask_67, gwp_s dX7_ask_70, gw1_s dX7_ask_70, gwp_s dX7_ask_71, gw1_s dX7_ask_71, gwp_s dX7_ask_72, gw1_s dX7_ask_72, gwp_s dX7_ask_74, gw1_s dX7_ask_74, gwp_s dX7_ask_77, gw1_s dX7_ask_77, gwp_s dX7_ask_80, gw1_s dX7_ask_80, gwp_s dX7_ask_81, gw1_s dX7_ask_81, gwp_s dX7_ask_82, gw1_s dX7_ask_82, gwp_s dX7_ask_85, gw1_s dX7_ask_85, gwp_s dX7_ask_88, gw1_s dX7_ask_88, gwp_s dX7_ask_91, gw1_s dX7_ask_91, gwp_s dX7_ask_92, gw1_s dX7_ask_92, gwp_s dX7_ask_93, gw1_s dX7_ask_93, gwp_s dX7_ask_96, gw1_s dX7_ask_96, gwp_s dX7_ask_97, gw1_s dX7_ask_97, gwp_s dX7_ask_98, gw1_s dX7_ask_98, gwp_s dX7_ask_101, gw1_s dX7_ask_101, gwp_s dX7_ask_102, gw1_s dX7_ask_102, gwp_s dX7_ask_105, gw1_s dX7_ask_105, gwp_s dX7_ask_108, gw1_s dX7_ask_108, gwp_s dX7_ask_109, gw1_s dX7_ask_109, gwp_s dX7_ask_110, gw1_s dX7_ask_110, gwp_s dX7_ask_112, gw1_s dX7_ask_112, gwp_s dX7_ask_115, gw1_s dX7_ask_115, gwp_s dX7_ask_118, gw1_s dX7_ask_118, gwp_s dX7_ask_121, gw1_s dX7_ask_121, gwp_s dX7_ask_122, gw1_s dX7_ask_122, gwp_s dX7_ask_123, gw1_s dX7_ask_123, gwp_s dX7_ask_126, gw1_s dX7_ask_126, gwp_s dX7_ask_127, gw1_s dX7_ask_127, gwp_s dX7_ask_128, gw1_s dX7_ask_128, gwp_s dX7_ask_131, gw1_s dX7_ask_131, gwp_s dX7_ask_132, gw1_s dX7_ask_132, gwp_s dX7_ask_133, gw1_s dX7_ask_133, gwp_s dX7_ask_136, gw1_s dX7_ask_136, gwp_s dX7_ask_137, gw1_s dX7_ask_137, gwp_s dX7_ask_140, gw1_s dX7_ask_140, gwp_s dX7_ask_143, gw1_s dX7_ask_143, cty_6_22, cty_6_25, cty_6_8, fl_7_145, fl_7_180, fl_7_32, gtg_eq 105 (-96) 9 (by decide), gtg_eq 115 11 126 (by decide), gtg_eq 123 (-114) 9 (by decide), gtg_eq 13 130 143 (by decide), gtg_eq 133 4 137 (by decide), gtg_eq 140 (-131) 9 (by decide), gtg_eq 27 81 108 (by decide), gtg_eq 37 9 46 (by decide), gtg_eq 57 13 70 (by decide), gtg_eq 67 24 91 (by decide), gtg_eq 77 8 85 (by decide), gtg_eq 82 9 91 (by decide), gtg_eq 88 (-79) 9 (by decide), gtg_eq 98 4 102 (by decide), gx_aload_n_0, gx_bipush_10, gx_dup, gx_getfield, gx_goto, gx_iadd, gx_iaload, gx_iconst_0, gx_iconst_1, gx_ifCond_eq, gx_ifCond_ne, gx_if_icmp_ne, gx_iinc_1, gx_iinc_m1, gx_iload, gx_iload_n_1, gx_iload_n_2, gx_iload_n_3, gx_imul, gx_invokevirtual, gx_istore, gx_istore_n_2, gx_istore_n_3, gx_isub, gx_putfield, gx_return_, gx_sipush_400, gn_self, g1i_c, g2i_c, g1l_c, g2l_c, gil_c, g1r_c, g1q_c, g1q_n, goq_c, gvr_c, gir_c, giir_c, glir_c, gqir_c, gqir_n, gdup_i, gdup_r, gdup2_l, gdup2_ir, gdup2_ii, goi_c, gol_c, gor_c, gor_n, gpv_i, gpv_z, gpv_l, gpv_o, gpv_a, fval_i, fval_z, fval_l, fval_o, fval_a, va_rf_s, va_rf_n, lnw_i, lnw_r, lnw_n, lnw_0, lnw_l, gcat_0, gcat_i, gcat_l, gcat_r, gcat_n, grcv_0, grcv_s, gRET_i, gRET_z, gRET_l, gRET_v, lg_0, lg_s, ls1_0, ls1_1, ls1_s, ls2_0, ls2_1, ls2_s, lpad_0, lpad_n, lpad_c, lent_0, lent_i, lent_l, lent_r, lent_n, gsh_si, gsh_sl, gsh_sr, gr_si, gr_sl, gi_sl, gi_sr, gl_si, gl_sr, List.contains_nil, List.contains_cons, Bool.false_eq_true, if_false, if_true, true_and, and_true, true_or, or_true, Nat.le_refl, Nat.zero_le, List.take_succ_cons, List.take_zero, List.drop_succ_cons, List.drop_zero, List.reverse_cons, List.reverse_nil, List.nil_append, List.cons_append, List.append_nil, List.length_cons, List.length_nil, Option.toList_some, Option.toList_none, Nat.add_zero, Nat.zero_add, Nat.reduceAdd, Nat.reduceLT, Nat.reduceLeDiff, Nat.reduceEqDiff, Nat.reduceBEq, Nat.reduceMul, Nat.reduceSub, ↓reduceIte, reduceCtorEq, Int32.reduceLE, Int32.reduceLT, Int32.reduceAdd, Int32.reduceSub, Int32.reduceMul, Int32.reduceToNatClampNeg, Int64.reduceLT, Int64.reduceLE, Bool.or_false, Bool.false_or, Bool.or_true, Bool.true_or, and_false, false_and, or_false, false_or, not_true_eq_false, not_false_eq_true, gcall, glup_c, gbr_T, gbr_F, List.zip_cons_cons, List.zip_nil_right, List.zip_nil_left, List.all_cons, List.all_nil, Bool.and_true, Int.reduceLT, decide_true, decide_eq_true_eq, cmp_eq, cmp_le, cmp_lt, cmp_ge, cmp_gt, b2_e0, b2_e1, bz_e0, bz_e1, gbr_N, ne01, ne10, nem0, nem1, vp_in0, m1lt0, m1ge0, s0]
      refine ⟨M, T, rfl, s0, hc, hF, fun _ => ?_, fun q => absurd hov q⟩
      simp only [gn_self, g1i_c, g2i_c, g1l_c, g2l_c, gil_c, g1r_c, g1q_c, g1q_n, goq_c, gvr_c, gir_c, giir_c, glir_c, gqir_c, gqir_n, gdup_i, gdup_r, gdup2_l, gdup2_ir, gdup2_ii, goi_c, gol_c, gor_c, gor_n, gpv_i, gpv_z, gpv_l, gpv_o, gpv_a, fval_i, fval_z, fval_l, fval_o, fval_a, va_rf_s, va_rf_n, lnw_i, lnw_r, lnw_n, lnw_0, lnw_l, gcat_0, gcat_i, gcat_l, gcat_r, gcat_n, grcv_0, grcv_s, gRET_i, gRET_z, gRET_l, gRET_v, lg_0, lg_s, ls1_0, ls1_1, ls1_s, ls2_0, ls2_1, ls2_s, lpad_0, lpad_n, lpad_c, lent_0, lent_i, lent_l, lent_r, lent_n, gsh_si, gsh_sl, gsh_sr, gr_si, gr_sl, gi_sl, gi_sr, gl_si, gl_sr, List.contains_nil, List.contains_cons, Bool.false_eq_true, if_false, if_true, true_and, and_true, true_or, or_true, Nat.le_refl, Nat.zero_le, List.take_succ_cons, List.take_zero, List.drop_succ_cons, List.drop_zero, List.reverse_cons, List.reverse_nil, List.nil_append, List.cons_append, List.append_nil, List.length_cons, List.length_nil, Option.toList_some, Option.toList_none, Nat.add_zero, Nat.zero_add, Nat.reduceAdd, Nat.reduceLT, Nat.reduceLeDiff, Nat.reduceEqDiff, Nat.reduceBEq, Nat.reduceMul, Nat.reduceSub, ↓reduceIte, reduceCtorEq, Int32.reduceLE, Int32.reduceLT, Int32.reduceAdd, Int32.reduceSub, Int32.reduceMul, Int32.reduceToNatClampNeg, Int64.reduceLT, Int64.reduceLE, Bool.or_false, Bool.false_or, Bool.or_true, Bool.true_or, and_false, false_and, or_false, false_or, not_true_eq_false, not_false_eq_true, gcall, glup_c, gbr_T, gbr_F, List.zip_cons_cons, List.zip_nil_right, List.zip_nil_left, List.all_cons, List.all_nil, Bool.and_true, Int.reduceLT, decide_true, decide_eq_true_eq, cmp_eq, cmp_le, cmp_lt, cmp_ge, cmp_gt, b2_e0, b2_e1, bz_e0, bz_e1, gbr_N, ne01, ne10, nem0, nem1, vp_in0, m1lt0, m1ge0]
      exact hK
    -- an answer goes up
    have up : ∀ (pcs : Nat) (k : Nat) (G1 : gS), (pcs = 91 ∨ pcs = 126) → k ≤ 10 → rF M G G1 → (k = L.length → post none G1) → (k ≠ L.length → gW p l e (grm 7 0 0) s m args below meth c D base 5 (MQ below (gQ D base post) args s 0 0 fun q => base ≤ q) 0 0 9 [some (.ref M), some (.int (nI j)), some (.int (nI (k + 1))), some (.int 0), none] [] G1) → gW p l e (grm 7 0 0) s m args below meth c D base 5 (MQ below (gQ D base post) args s 0 0 fun q => base ≤ q) 0 0 pcs [some (.ref M), some (.int (nI j)), some (.int (nI k)), some (.int 0), none] [] G1 := by
      intro pcs k G1 hpc hk hf h1 h2
      have s0 : gsh G1 M = (1, 6, 0) := by rw [hf.1.2.1]; exact m0
      have s8 : gr G1 M 8 = some (M + 8) := by rw [hf.2.1]; exact m8
      have ss8 : gsh G1 (M + 8) = (2, 0, 4) := by rw [hf.1.2.1]; exact ms8
      have e8 : gi G1 (M + 8) j = nI L.length := (hf.MS hR0.1).2.2.2.2.2.2.1
      have ce : (nI k = nI L.length) = (k = L.length) := nI_eq_e (by omega) (by omega)
      rcases hpc with rfl | rfl
      · refine gw1_ok (cuts := [9]) O 100 ?_
        simp only [gwp_s dX7_ask_0, gw1_s dX7_ask_0, gwp_s dX7_ask_1, gw1_s dX7_ask_1, gwp_s dX7_ask_4, gw1_s dX7_ask_4, gwp_s dX7_ask_5, gw1_s dX7_ask_5, gwp_s dX7_ask_6, gw1_s dX7_ask_6, gwp_s dX7_ask_7, gw1_s dX7_ask_7, gwp_s dX7_ask_8, gw1_s dX7_ask_8, gwp_s dX7_ask_9, gw1_s dX7_ask_9, gwp_s dX7_ask_10, gw1_s dX7_ask_10, gwp_s dX7_ask_13, gw1_s dX7_ask_13, gwp_s dX7_ask_16, gw1_s dX7_ask_16, gwp_s dX7_ask_18, gw1_s dX7_ask_18, gwp_s dX7_ask_19, gw1_s dX7_ask_19, gwp_s dX7_ask_20, gw1_s dX7_ask_20, gwp_s dX7_ask_21, gw1_s dX7_ask_21, gwp_s dX7_ask_22, gw1_s dX7_ask_22, gwp_s dX7_ask_23, gw1_s dX7_ask_23, gwp_s dX7_ask_24, gw1_s dX7_ask_24, gwp_s dX7_ask_26, gw1_s dX7_ask_26, gwp_s dX7_ask_27, gw1_s dX7_ask_27, gwp_s dX7_ask_30, gw1_s dX7_ask_30, gwp_s dX7_ask_31, gw1_s dX7_ask_31, gwp_s dX7_ask_34, gw1_s dX7_ask_34, gwp_s dX7_ask_37, gw1_s dX7_ask_37, gwp_s dX7_ask_40, gw1_s dX7_ask_40, gwp_s dX7_ask_41, gw1_s dX7_ask_41, gwp_s dX7_ask_42, gw1_s dX7_ask_42, gwp_s dX7_ask_45, gw1_s dX7_ask_45, gwp_s dX7_ask_46, gw1_s dX7_ask_46, gwp_s dX7_ask_47, gw1_s dX7_ask_47, gwp_s dX7_ask_48, gw1_s dX7_ask_48, gwp_s dX7_ask_51, gw1_s dX7_ask_51, gwp_s dX7_ask_52, gw1_s dX7_ask_52, gwp_s dX7_ask_53, gw1_s dX7_ask_53, gwp_s dX7_ask_56, gw1_s dX7_ask_56, gwp_s dX7_ask_57, gw1_s dX7_ask_57, gwp_s dX7_ask_60, gw1_s dX7_ask_60, gwp_s dX7_ask_61, gw1_s dX7_ask_61, gwp_s dX7_ask_62, gw1_s dX7_ask_62, gwp_s dX7_ask_65, gw1_s dX7_ask_65, gwp_s dX7_ask_66, gw1_s dX7_ask_66, gwp_s dX7_ask_67, gw1_s dX7_ask_67, gwp_s dX7_ask_70, gw1_s dX7_ask_70, gwp_s dX7_ask_71, gw1_s dX7_ask_71, gwp_s dX7_ask_72, gw1_s dX7_ask_72, gwp_s dX7_ask_74, gw1_s dX7_ask_74, gwp_s dX7_ask_77, gw1_s dX7_ask_77, gwp_s dX7_ask_80, gw1_s dX7_ask_80, gwp_s dX7_ask_81, gw1_s dX7_ask_81, gwp_s dX7_ask_82, gw1_s dX7_ask_82, gwp_s dX7_ask_85, gw1_s dX7_ask_85, gwp_s dX7_ask_88, gw1_s dX7_ask_88, gwp_s dX7_ask_91, gw1_s dX7_ask_91, gwp_s dX7_ask_92, gw1_s dX7_ask_92, gwp_s dX7_ask_93, gw1_s dX7_ask_93, gwp_s dX7_ask_96, gw1_s dX7_ask_96, gwp_s dX7_ask_97, gw1_s dX7_ask_97, gwp_s dX7_ask_98, gw1_s dX7_ask_98, gwp_s dX7_ask_101, gw1_s dX7_ask_101, gwp_s dX7_ask_102, gw1_s dX7_ask_102, gwp_s dX7_ask_105, gw1_s dX7_ask_105, gwp_s dX7_ask_108, gw1_s dX7_ask_108, gwp_s dX7_ask_109, gw1_s dX7_ask_109, gwp_s dX7_ask_110, gw1_s dX7_ask_110, gwp_s dX7_ask_112, gw1_s dX7_ask_112, gwp_s dX7_ask_115, gw1_s dX7_ask_115, gwp_s dX7_ask_118, gw1_s dX7_ask_118, gwp_s dX7_ask_121, gw1_s dX7_ask_121, gwp_s dX7_ask_122, gw1_s dX7_ask_122, gwp_s dX7_ask_123, gw1_s dX7_ask_123, gwp_s dX7_ask_126, gw1_s dX7_ask_126, gwp_s dX7_ask_127, gw1_s dX7_ask_127, gwp_s dX7_ask_128, gw1_s dX7_ask_128, gwp_s dX7_ask_131, gw1_s dX7_ask_131, gwp_s dX7_ask_132, gw1_s dX7_ask_132, gwp_s dX7_ask_133, gw1_s dX7_ask_133, gwp_s dX7_ask_136, gw1_s dX7_ask_136, gwp_s dX7_ask_137, gw1_s dX7_ask_137, gwp_s dX7_ask_140, gw1_s dX7_ask_140, gwp_s dX7_ask_143, gw1_s dX7_ask_143, cty_6_22, cty_6_25, cty_6_8, fl_7_145, fl_7_180, fl_7_32, gtg_eq 105 (-96) 9 (by decide), gtg_eq 115 11 126 (by decide), gtg_eq 123 (-114) 9 (by decide), gtg_eq 13 130 143 (by decide), gtg_eq 133 4 137 (by decide), gtg_eq 140 (-131) 9 (by decide), gtg_eq 27 81 108 (by decide), gtg_eq 37 9 46 (by decide), gtg_eq 57 13 70 (by decide), gtg_eq 67 24 91 (by decide), gtg_eq 77 8 85 (by decide), gtg_eq 82 9 91 (by decide), gtg_eq 88 (-79) 9 (by decide), gtg_eq 98 4 102 (by decide), gx_aload_n_0, gx_bipush_10, gx_dup, gx_getfield, gx_goto, gx_iadd, gx_iaload, gx_iconst_0, gx_iconst_1, gx_ifCond_eq, gx_ifCond_ne, gx_if_icmp_ne, gx_iinc_1, gx_iinc_m1, gx_iload, gx_iload_n_1, gx_iload_n_2, gx_iload_n_3, gx_imul, gx_invokevirtual, gx_istore, gx_istore_n_2, gx_istore_n_3, gx_isub, gx_putfield, gx_return_, gx_sipush_400, gn_self, g1i_c, g2i_c, g1l_c, g2l_c, gil_c, g1r_c, g1q_c, g1q_n, goq_c, gvr_c, gir_c, giir_c, glir_c, gqir_c, gqir_n, gdup_i, gdup_r, gdup2_l, gdup2_ir, gdup2_ii, goi_c, gol_c, gor_c, gor_n, gpv_i, gpv_z, gpv_l, gpv_o, gpv_a, fval_i, fval_z, fval_l, fval_o, fval_a, va_rf_s, va_rf_n, lnw_i, lnw_r, lnw_n, lnw_0, lnw_l, gcat_0, gcat_i, gcat_l, gcat_r, gcat_n, grcv_0, grcv_s, gRET_i, gRET_z, gRET_l, gRET_v, lg_0, lg_s, ls1_0, ls1_1, ls1_s, ls2_0, ls2_1, ls2_s, lpad_0, lpad_n, lpad_c, lent_0, lent_i, lent_l, lent_r, lent_n, gsh_si, gsh_sl, gsh_sr, gr_si, gr_sl, gi_sl, gi_sr, gl_si, gl_sr, List.contains_nil, List.contains_cons, Bool.false_eq_true, if_false, if_true, true_and, and_true, true_or, or_true, Nat.le_refl, Nat.zero_le, List.take_succ_cons, List.take_zero, List.drop_succ_cons, List.drop_zero, List.reverse_cons, List.reverse_nil, List.nil_append, List.cons_append, List.append_nil, List.length_cons, List.length_nil, Option.toList_some, Option.toList_none, Nat.add_zero, Nat.zero_add, Nat.reduceAdd, Nat.reduceLT, Nat.reduceLeDiff, Nat.reduceEqDiff, Nat.reduceBEq, Nat.reduceMul, Nat.reduceSub, ↓reduceIte, reduceCtorEq, Int32.reduceLE, Int32.reduceLT, Int32.reduceAdd, Int32.reduceSub, Int32.reduceMul, Int32.reduceToNatClampNeg, Int64.reduceLT, Int64.reduceLE, Bool.or_false, Bool.false_or, Bool.or_true, Bool.true_or, and_false, false_and, or_false, false_or, not_true_eq_false, not_false_eq_true, gcall, glup_c, gbr_T, gbr_F, List.zip_cons_cons, List.zip_nil_right, List.zip_nil_left, List.all_cons, List.all_nil, Bool.and_true, Int.reduceLT, decide_true, decide_eq_true_eq, cmp_eq, cmp_le, cmp_lt, cmp_ge, cmp_gt, b2_e0, b2_e1, bz_e0, bz_e1, gbr_N, ne01, ne10, nem0, nem1, vp_in0, m1lt0, m1ge0, s0, s8, ss8, e8, ce, nI_cl (show j < 2147483648 by omega), vp_T hj (by decide : 4 < 2147483648)]
        exact gbr_i h1 (fun q => (h2 q).le (by simp [lle, nI_1]))
      · refine gw1_ok (cuts := [9]) O 100 ?_
        simp only [gwp_s dX7_ask_0, gw1_s dX7_ask_0, gwp_s dX7_ask_1, gw1_s dX7_ask_1, gwp_s dX7_ask_4, gw1_s dX7_ask_4, gwp_s dX7_ask_5, gw1_s dX7_ask_5, gwp_s dX7_ask_6, gw1_s dX7_ask_6, gwp_s dX7_ask_7, gw1_s dX7_ask_7, gwp_s dX7_ask_8, gw1_s dX7_ask_8, gwp_s dX7_ask_9, gw1_s dX7_ask_9, gwp_s dX7_ask_10, gw1_s dX7_ask_10, gwp_s dX7_ask_13, gw1_s dX7_ask_13, gwp_s dX7_ask_16, gw1_s dX7_ask_16, gwp_s dX7_ask_18, gw1_s dX7_ask_18, gwp_s dX7_ask_19, gw1_s dX7_ask_19, gwp_s dX7_ask_20, gw1_s dX7_ask_20, gwp_s dX7_ask_21, gw1_s dX7_ask_21, gwp_s dX7_ask_22, gw1_s dX7_ask_22, gwp_s dX7_ask_23, gw1_s dX7_ask_23, gwp_s dX7_ask_24, gw1_s dX7_ask_24, gwp_s dX7_ask_26, gw1_s dX7_ask_26, gwp_s dX7_ask_27, gw1_s dX7_ask_27, gwp_s dX7_ask_30, gw1_s dX7_ask_30, gwp_s dX7_ask_31, gw1_s dX7_ask_31, gwp_s dX7_ask_34, gw1_s dX7_ask_34, gwp_s dX7_ask_37, gw1_s dX7_ask_37, gwp_s dX7_ask_40, gw1_s dX7_ask_40, gwp_s dX7_ask_41, gw1_s dX7_ask_41, gwp_s dX7_ask_42, gw1_s dX7_ask_42, gwp_s dX7_ask_45, gw1_s dX7_ask_45, gwp_s dX7_ask_46, gw1_s dX7_ask_46, gwp_s dX7_ask_47, gw1_s dX7_ask_47, gwp_s dX7_ask_48, gw1_s dX7_ask_48, gwp_s dX7_ask_51, gw1_s dX7_ask_51, gwp_s dX7_ask_52, gw1_s dX7_ask_52, gwp_s dX7_ask_53, gw1_s dX7_ask_53, gwp_s dX7_ask_56, gw1_s dX7_ask_56, gwp_s dX7_ask_57, gw1_s dX7_ask_57, gwp_s dX7_ask_60, gw1_s dX7_ask_60, gwp_s dX7_ask_61, gw1_s dX7_ask_61, gwp_s dX7_ask_62, gw1_s dX7_ask_62, gwp_s dX7_ask_65, gw1_s dX7_ask_65, gwp_s dX7_ask_66, gw1_s dX7_ask_66, gwp_s dX7_ask_67, gw1_s dX7_ask_67, gwp_s dX7_ask_70, gw1_s dX7_ask_70, gwp_s dX7_ask_71, gw1_s dX7_ask_71, gwp_s dX7_ask_72, gw1_s dX7_ask_72, gwp_s dX7_ask_74, gw1_s dX7_ask_74, gwp_s dX7_ask_77, gw1_s dX7_ask_77, gwp_s dX7_ask_80, gw1_s dX7_ask_80, gwp_s dX7_ask_81, gw1_s dX7_ask_81, gwp_s dX7_ask_82, gw1_s dX7_ask_82, gwp_s dX7_ask_85, gw1_s dX7_ask_85, gwp_s dX7_ask_88, gw1_s dX7_ask_88, gwp_s dX7_ask_91, gw1_s dX7_ask_91, gwp_s dX7_ask_92, gw1_s dX7_ask_92, gwp_s dX7_ask_93, gw1_s dX7_ask_93, gwp_s dX7_ask_96, gw1_s dX7_ask_96, gwp_s dX7_ask_97, gw1_s dX7_ask_97, gwp_s dX7_ask_98, gw1_s dX7_ask_98, gwp_s dX7_ask_101, gw1_s dX7_ask_101, gwp_s dX7_ask_102, gw1_s dX7_ask_102, gwp_s dX7_ask_105, gw1_s dX7_ask_105, gwp_s dX7_ask_108, gw1_s dX7_ask_108, gwp_s dX7_ask_109, gw1_s dX7_ask_109, gwp_s dX7_ask_110, gw1_s dX7_ask_110, gwp_s dX7_ask_112, gw1_s dX7_ask_112, gwp_s dX7_ask_115, gw1_s dX7_ask_115, gwp_s dX7_ask_118, gw1_s dX7_ask_118, gwp_s dX7_ask_121, gw1_s dX7_ask_121, gwp_s dX7_ask_122, gw1_s dX7_ask_122, gwp_s dX7_ask_123, gw1_s dX7_ask_123, gwp_s dX7_ask_126, gw1_s dX7_ask_126, gwp_s dX7_ask_127, gw1_s dX7_ask_127, gwp_s dX7_ask_128, gw1_s dX7_ask_128, gwp_s dX7_ask_131, gw1_s dX7_ask_131, gwp_s dX7_ask_132, gw1_s dX7_ask_132, gwp_s dX7_ask_133, gw1_s dX7_ask_133, gwp_s dX7_ask_136, gw1_s dX7_ask_136, gwp_s dX7_ask_137, gw1_s dX7_ask_137, gwp_s dX7_ask_140, gw1_s dX7_ask_140, gwp_s dX7_ask_143, gw1_s dX7_ask_143, cty_6_22, cty_6_25, cty_6_8, fl_7_145, fl_7_180, fl_7_32, gtg_eq 105 (-96) 9 (by decide), gtg_eq 115 11 126 (by decide), gtg_eq 123 (-114) 9 (by decide), gtg_eq 13 130 143 (by decide), gtg_eq 133 4 137 (by decide), gtg_eq 140 (-131) 9 (by decide), gtg_eq 27 81 108 (by decide), gtg_eq 37 9 46 (by decide), gtg_eq 57 13 70 (by decide), gtg_eq 67 24 91 (by decide), gtg_eq 77 8 85 (by decide), gtg_eq 82 9 91 (by decide), gtg_eq 88 (-79) 9 (by decide), gtg_eq 98 4 102 (by decide), gx_aload_n_0, gx_bipush_10, gx_dup, gx_getfield, gx_goto, gx_iadd, gx_iaload, gx_iconst_0, gx_iconst_1, gx_ifCond_eq, gx_ifCond_ne, gx_if_icmp_ne, gx_iinc_1, gx_iinc_m1, gx_iload, gx_iload_n_1, gx_iload_n_2, gx_iload_n_3, gx_imul, gx_invokevirtual, gx_istore, gx_istore_n_2, gx_istore_n_3, gx_isub, gx_putfield, gx_return_, gx_sipush_400, gn_self, g1i_c, g2i_c, g1l_c, g2l_c, gil_c, g1r_c, g1q_c, g1q_n, goq_c, gvr_c, gir_c, giir_c, glir_c, gqir_c, gqir_n, gdup_i, gdup_r, gdup2_l, gdup2_ir, gdup2_ii, goi_c, gol_c, gor_c, gor_n, gpv_i, gpv_z, gpv_l, gpv_o, gpv_a, fval_i, fval_z, fval_l, fval_o, fval_a, va_rf_s, va_rf_n, lnw_i, lnw_r, lnw_n, lnw_0, lnw_l, gcat_0, gcat_i, gcat_l, gcat_r, gcat_n, grcv_0, grcv_s, gRET_i, gRET_z, gRET_l, gRET_v, lg_0, lg_s, ls1_0, ls1_1, ls1_s, ls2_0, ls2_1, ls2_s, lpad_0, lpad_n, lpad_c, lent_0, lent_i, lent_l, lent_r, lent_n, gsh_si, gsh_sl, gsh_sr, gr_si, gr_sl, gi_sl, gi_sr, gl_si, gl_sr, List.contains_nil, List.contains_cons, Bool.false_eq_true, if_false, if_true, true_and, and_true, true_or, or_true, Nat.le_refl, Nat.zero_le, List.take_succ_cons, List.take_zero, List.drop_succ_cons, List.drop_zero, List.reverse_cons, List.reverse_nil, List.nil_append, List.cons_append, List.append_nil, List.length_cons, List.length_nil, Option.toList_some, Option.toList_none, Nat.add_zero, Nat.zero_add, Nat.reduceAdd, Nat.reduceLT, Nat.reduceLeDiff, Nat.reduceEqDiff, Nat.reduceBEq, Nat.reduceMul, Nat.reduceSub, ↓reduceIte, reduceCtorEq, Int32.reduceLE, Int32.reduceLT, Int32.reduceAdd, Int32.reduceSub, Int32.reduceMul, Int32.reduceToNatClampNeg, Int64.reduceLT, Int64.reduceLE, Bool.or_false, Bool.false_or, Bool.or_true, Bool.true_or, and_false, false_and, or_false, false_or, not_true_eq_false, not_false_eq_true, gcall, glup_c, gbr_T, gbr_F, List.zip_cons_cons, List.zip_nil_right, List.zip_nil_left, List.all_cons, List.all_nil, Bool.and_true, Int.reduceLT, decide_true, decide_eq_true_eq, cmp_eq, cmp_le, cmp_lt, cmp_ge, cmp_gt, b2_e0, b2_e1, bz_e0, bz_e1, gbr_N, ne01, ne10, nem0, nem1, vp_in0, m1lt0, m1ge0, s0, s8, ss8, e8, ce, nI_cl (show j < 2147483648 by omega), vp_T hj (by decide : 4 < 2147483648)]
        exact gbr_i h1 (fun q => (h2 q).le (by simp [lle, nI_1]))
    -- level k + 1 hears
    have he : ∀ (k : Nat) (T : sT) (G1 : gS), k < L.length → RM M j R L P T G1 → ¬ tOv T → tF T ≤ 4 → (∀ K : Option Value → gS → Prop, (∀ G', gW p l e (grm 7 0 0) s m args below meth c D base 5 (MQ below (gQ D base post) args s 0 0 fun q => base ≤ q) 0 0 126 [some (.ref M), some (.int (nI j)), some (.int (nI (k + 1))), some (.int 0), none] [] G' → K (some (.int 1)) G') → (∀ G', gW p l e (grm 7 0 0) s m args below meth c D base 5 (MQ below (gQ D base post) args s 0 0 fun q => base ≤ q) 0 0 9 [some (.ref M), some (.int (nI j)), some (.int (nI k)), some (.int 1), none] [] G' → K (some (.int 0)) G') → S_X7_hears [.ref M, .int (nI (k + 1)), .int (nI (10 * j + k))] G1 K) → gW p l e (grm 7 0 0) s m args below meth c D base 5 (MQ below (gQ D base post) args s 0 0 fun q => base ≤ q) 0 0 9 [some (.ref M), some (.int (nI j)), some (.int (nI (k + 1))), some (.int 0), none] [] G1 := by
      intro k T G1 hk hR hov hF hH
      refine hd _ _ T G1 hR hov hF ?_
      have s0 := hR.1.1.1
      have c1 : (10 : Int32) * nI j + nI (k + 1) = nI (10 * j + k + 1) := by rw [i10, nI_mu, nI_ad]; congr 1
      refine gw1_ok (cuts := [9, 126, 30]) O 100 ?_
      simp only [gwp_s dX7_ask_0, gw1_s dX7_ask_0, gwp_s dX7_ask_1, gw1_s dX7_ask_1, gwp_s dX7_ask_4, gw1_s dX7_ask_4, gwp_s dX7_ask_5, gw1_s dX7_ask_5, gwp_s dX7_ask_6, gw1_s dX7_ask_6, gwp_s dX7_ask_7, gw1_s dX7_ask_7, gwp_s dX7_ask_8, gw1_s dX7_ask_8, gwp_s dX7_ask_9, gw1_s dX7_ask_9, gwp_s dX7_ask_10, gw1_s dX7_ask_10, gwp_s dX7_ask_13, gw1_s dX7_ask_13, gwp_s dX7_ask_16, gw1_s dX7_ask_16, gwp_s dX7_ask_18, gw1_s dX7_ask_18, gwp_s dX7_ask_19, gw1_s dX7_ask_19, gwp_s dX7_ask_20, gw1_s dX7_ask_20, gwp_s dX7_ask_21, gw1_s dX7_ask_21, gwp_s dX7_ask_22, gw1_s dX7_ask_22, gwp_s dX7_ask_23, gw1_s dX7_ask_23, gwp_s dX7_ask_24, gw1_s dX7_ask_24, gwp_s dX7_ask_26, gw1_s dX7_ask_26, gwp_s dX7_ask_27, gw1_s dX7_ask_27, gwp_s dX7_ask_30, gw1_s dX7_ask_30, gwp_s dX7_ask_31, gw1_s dX7_ask_31, gwp_s dX7_ask_34, gw1_s dX7_ask_34, gwp_s dX7_ask_37, gw1_s dX7_ask_37, gwp_s dX7_ask_40, gw1_s dX7_ask_40, gwp_s dX7_ask_41, gw1_s dX7_ask_41, gwp_s dX7_ask_42, gw1_s dX7_ask_42, gwp_s dX7_ask_45, gw1_s dX7_ask_45, gwp_s dX7_ask_46, gw1_s dX7_ask_46, gwp_s dX7_ask_47, gw1_s dX7_ask_47, gwp_s dX7_ask_48, gw1_s dX7_ask_48, gwp_s dX7_ask_51, gw1_s dX7_ask_51, gwp_s dX7_ask_52, gw1_s dX7_ask_52, gwp_s dX7_ask_53, gw1_s dX7_ask_53, gwp_s dX7_ask_56, gw1_s dX7_ask_56, gwp_s dX7_ask_57, gw1_s dX7_ask_57, gwp_s dX7_ask_60, gw1_s dX7_ask_60, gwp_s dX7_ask_61, gw1_s dX7_ask_61, gwp_s dX7_ask_62, gw1_s dX7_ask_62, gwp_s dX7_ask_65, gw1_s dX7_ask_65, gwp_s dX7_ask_66, gw1_s dX7_ask_66, gwp_s dX7_ask_67, gw1_s dX7_ask_67, gwp_s dX7_ask_70, gw1_s dX7_ask_70, gwp_s dX7_ask_71, gw1_s dX7_ask_71, gwp_s dX7_ask_72, gw1_s dX7_ask_72, gwp_s dX7_ask_74, gw1_s dX7_ask_74, gwp_s dX7_ask_77, gw1_s dX7_ask_77, gwp_s dX7_ask_80, gw1_s dX7_ask_80, gwp_s dX7_ask_81, gw1_s dX7_ask_81, gwp_s dX7_ask_82, gw1_s dX7_ask_82, gwp_s dX7_ask_85, gw1_s dX7_ask_85, gwp_s dX7_ask_88, gw1_s dX7_ask_88, gwp_s dX7_ask_91, gw1_s dX7_ask_91, gwp_s dX7_ask_92, gw1_s dX7_ask_92, gwp_s dX7_ask_93, gw1_s dX7_ask_93, gwp_s dX7_ask_96, gw1_s dX7_ask_96, gwp_s dX7_ask_97, gw1_s dX7_ask_97, gwp_s dX7_ask_98, gw1_s dX7_ask_98, gwp_s dX7_ask_101, gw1_s dX7_ask_101, gwp_s dX7_ask_102, gw1_s dX7_ask_102, gwp_s dX7_ask_105, gw1_s dX7_ask_105, gwp_s dX7_ask_108, gw1_s dX7_ask_108, gwp_s dX7_ask_109, gw1_s dX7_ask_109, gwp_s dX7_ask_110, gw1_s dX7_ask_110, gwp_s dX7_ask_112, gw1_s dX7_ask_112, gwp_s dX7_ask_115, gw1_s dX7_ask_115, gwp_s dX7_ask_118, gw1_s dX7_ask_118, gwp_s dX7_ask_121, gw1_s dX7_ask_121, gwp_s dX7_ask_122, gw1_s dX7_ask_122, gwp_s dX7_ask_123, gw1_s dX7_ask_123, gwp_s dX7_ask_126, gw1_s dX7_ask_126, gwp_s dX7_ask_127, gw1_s dX7_ask_127, gwp_s dX7_ask_128, gw1_s dX7_ask_128, gwp_s dX7_ask_131, gw1_s dX7_ask_131, gwp_s dX7_ask_132, gw1_s dX7_ask_132, gwp_s dX7_ask_133, gw1_s dX7_ask_133, gwp_s dX7_ask_136, gw1_s dX7_ask_136, gwp_s dX7_ask_137, gw1_s dX7_ask_137, gwp_s dX7_ask_140, gw1_s dX7_ask_140, gwp_s dX7_ask_143, gw1_s dX7_ask_143, cty_6_22, cty_6_25, cty_6_8, fl_7_145, fl_7_180, fl_7_32, gtg_eq 105 (-96) 9 (by decide), gtg_eq 115 11 126 (by decide), gtg_eq 123 (-114) 9 (by decide), gtg_eq 13 130 143 (by decide), gtg_eq 133 4 137 (by decide), gtg_eq 140 (-131) 9 (by decide), gtg_eq 27 81 108 (by decide), gtg_eq 37 9 46 (by decide), gtg_eq 57 13 70 (by decide), gtg_eq 67 24 91 (by decide), gtg_eq 77 8 85 (by decide), gtg_eq 82 9 91 (by decide), gtg_eq 88 (-79) 9 (by decide), gtg_eq 98 4 102 (by decide), gx_aload_n_0, gx_bipush_10, gx_dup, gx_getfield, gx_goto, gx_iadd, gx_iaload, gx_iconst_0, gx_iconst_1, gx_ifCond_eq, gx_ifCond_ne, gx_if_icmp_ne, gx_iinc_1, gx_iinc_m1, gx_iload, gx_iload_n_1, gx_iload_n_2, gx_iload_n_3, gx_imul, gx_invokevirtual, gx_istore, gx_istore_n_2, gx_istore_n_3, gx_isub, gx_putfield, gx_return_, gx_sipush_400, gn_self, g1i_c, g2i_c, g1l_c, g2l_c, gil_c, g1r_c, g1q_c, g1q_n, goq_c, gvr_c, gir_c, giir_c, glir_c, gqir_c, gqir_n, gdup_i, gdup_r, gdup2_l, gdup2_ir, gdup2_ii, goi_c, gol_c, gor_c, gor_n, gpv_i, gpv_z, gpv_l, gpv_o, gpv_a, fval_i, fval_z, fval_l, fval_o, fval_a, va_rf_s, va_rf_n, lnw_i, lnw_r, lnw_n, lnw_0, lnw_l, gcat_0, gcat_i, gcat_l, gcat_r, gcat_n, grcv_0, grcv_s, gRET_i, gRET_z, gRET_l, gRET_v, lg_0, lg_s, ls1_0, ls1_1, ls1_s, ls2_0, ls2_1, ls2_s, lpad_0, lpad_n, lpad_c, lent_0, lent_i, lent_l, lent_r, lent_n, gsh_si, gsh_sl, gsh_sr, gr_si, gr_sl, gi_sl, gi_sr, gl_si, gl_sr, List.contains_nil, List.contains_cons, Bool.false_eq_true, if_false, if_true, true_and, and_true, true_or, or_true, Nat.le_refl, Nat.zero_le, List.take_succ_cons, List.take_zero, List.drop_succ_cons, List.drop_zero, List.reverse_cons, List.reverse_nil, List.nil_append, List.cons_append, List.append_nil, List.length_cons, List.length_nil, Option.toList_some, Option.toList_none, Nat.add_zero, Nat.zero_add, Nat.reduceAdd, Nat.reduceLT, Nat.reduceLeDiff, Nat.reduceEqDiff, Nat.reduceBEq, Nat.reduceMul, Nat.reduceSub, ↓reduceIte, reduceCtorEq, Int32.reduceLE, Int32.reduceLT, Int32.reduceAdd, Int32.reduceSub, Int32.reduceMul, Int32.reduceToNatClampNeg, Int64.reduceLT, Int64.reduceLE, Bool.or_false, Bool.false_or, Bool.or_true, Bool.true_or, and_false, false_and, or_false, false_or, not_true_eq_false, not_false_eq_true, gcall, glup_c, gbr_T, gbr_F, List.zip_cons_cons, List.zip_nil_right, List.zip_nil_left, List.all_cons, List.all_nil, Bool.and_true, Int.reduceLT, decide_true, decide_eq_true_eq, cmp_eq, cmp_le, cmp_lt, cmp_ge, cmp_gt, b2_e0, b2_e1, bz_e0, bz_e1, gbr_N, ne01, ne10, nem0, nem1, vp_in0, m1lt0, m1ge0, s0, c1, nI_pred, ad_m1]
      refine hH _ (fun G' hG => ?_) (fun G' hG => ?_)
      · simp only [gn_self, g1i_c, g2i_c, g1l_c, g2l_c, gil_c, g1r_c, g1q_c, g1q_n, goq_c, gvr_c, gir_c, giir_c, glir_c, gqir_c, gqir_n, gdup_i, gdup_r, gdup2_l, gdup2_ir, gdup2_ii, goi_c, gol_c, gor_c, gor_n, gpv_i, gpv_z, gpv_l, gpv_o, gpv_a, fval_i, fval_z, fval_l, fval_o, fval_a, va_rf_s, va_rf_n, lnw_i, lnw_r, lnw_n, lnw_0, lnw_l, gcat_0, gcat_i, gcat_l, gcat_r, gcat_n, grcv_0, grcv_s, gRET_i, gRET_z, gRET_l, gRET_v, lg_0, lg_s, ls1_0, ls1_1, ls1_s, ls2_0, ls2_1, ls2_s, lpad_0, lpad_n, lpad_c, lent_0, lent_i, lent_l, lent_r, lent_n, gsh_si, gsh_sl, gsh_sr, gr_si, gr_sl, gi_sl, gi_sr, gl_si, gl_sr, List.contains_nil, List.contains_cons, Bool.false_eq_true, if_false, if_true, true_and, and_true, true_or, or_true, Nat.le_refl, Nat.zero_le, List.take_succ_cons, List.take_zero, List.drop_succ_cons, List.drop_zero, List.reverse_cons, List.reverse_nil, List.nil_append, List.cons_append, List.append_nil, List.length_cons, List.length_nil, Option.toList_some, Option.toList_none, Nat.add_zero, Nat.zero_add, Nat.reduceAdd, Nat.reduceLT, Nat.reduceLeDiff, Nat.reduceEqDiff, Nat.reduceBEq, Nat.reduceMul, Nat.reduceSub, ↓reduceIte, reduceCtorEq, Int32.reduceLE, Int32.reduceLT, Int32.reduceAdd, Int32.reduceSub, Int32.reduceMul, Int32.reduceToNatClampNeg, Int64.reduceLT, Int64.reduceLE, Bool.or_false, Bool.false_or, Bool.or_true, Bool.true_or, and_false, false_and, or_false, false_or, not_true_eq_false, not_false_eq_true, gcall, glup_c, gbr_T, gbr_F, List.zip_cons_cons, List.zip_nil_right, List.zip_nil_left, List.all_cons, List.all_nil, Bool.and_true, Int.reduceLT, decide_true, decide_eq_true_eq, cmp_eq, cmp_le, cmp_lt, cmp_ge, cmp_gt, b2_e0, b2_e1, bz_e0, bz_e1, gbr_N, ne01, ne10, nem0, nem1, vp_in0, m1lt0, m1ge0]
        exact hG.le (by simp [lle])
      · simp only [gn_self, g1i_c, g2i_c, g1l_c, g2l_c, gil_c, g1r_c, g1q_c, g1q_n, goq_c, gvr_c, gir_c, giir_c, glir_c, gqir_c, gqir_n, gdup_i, gdup_r, gdup2_l, gdup2_ir, gdup2_ii, goi_c, gol_c, gor_c, gor_n, gpv_i, gpv_z, gpv_l, gpv_o, gpv_a, fval_i, fval_z, fval_l, fval_o, fval_a, va_rf_s, va_rf_n, lnw_i, lnw_r, lnw_n, lnw_0, lnw_l, gcat_0, gcat_i, gcat_l, gcat_r, gcat_n, grcv_0, grcv_s, gRET_i, gRET_z, gRET_l, gRET_v, lg_0, lg_s, ls1_0, ls1_1, ls1_s, ls2_0, ls2_1, ls2_s, lpad_0, lpad_n, lpad_c, lent_0, lent_i, lent_l, lent_r, lent_n, gsh_si, gsh_sl, gsh_sr, gr_si, gr_sl, gi_sl, gi_sr, gl_si, gl_sr, List.contains_nil, List.contains_cons, Bool.false_eq_true, if_false, if_true, true_and, and_true, true_or, or_true, Nat.le_refl, Nat.zero_le, List.take_succ_cons, List.take_zero, List.drop_succ_cons, List.drop_zero, List.reverse_cons, List.reverse_nil, List.nil_append, List.cons_append, List.append_nil, List.length_cons, List.length_nil, Option.toList_some, Option.toList_none, Nat.add_zero, Nat.zero_add, Nat.reduceAdd, Nat.reduceLT, Nat.reduceLeDiff, Nat.reduceEqDiff, Nat.reduceBEq, Nat.reduceMul, Nat.reduceSub, ↓reduceIte, reduceCtorEq, Int32.reduceLE, Int32.reduceLT, Int32.reduceAdd, Int32.reduceSub, Int32.reduceMul, Int32.reduceToNatClampNeg, Int64.reduceLT, Int64.reduceLE, Bool.or_false, Bool.false_or, Bool.or_true, Bool.true_or, and_false, false_and, or_false, false_or, not_true_eq_false, not_false_eq_true, gcall, glup_c, gbr_T, gbr_F, List.zip_cons_cons, List.zip_nil_right, List.zip_nil_left, List.all_cons, List.all_nil, Bool.and_true, Int.reduceLT, decide_true, decide_eq_true_eq, cmp_eq, cmp_le, cmp_lt, cmp_ge, cmp_gt, b2_e0, b2_e1, bz_e0, bz_e1, gbr_N, ne01, ne10, nem0, nem1, vp_in0, m1lt0, m1ge0]
        exact hG.le (by simp [lle])
    have AK : ∀ (k : Nat), k ≤ L.length → ∀ (T : sT) (G1 : gS), IT L (L.length - k) T → lP T → ¬ tOv T → RM M j R L P T G1 → opn M L T G1 k → rF M G G1 →
        (∀ G', rF M G G' → tOv (askP R L P k T).1 → cM M (askP R L P k T).1 G' → post none G') →
        (∀ G', rF M G G' → ¬ tOv (askP R L P k T).1 → RM M j R L P (askP R L P k T).1 G' → gi G' M 32 = on1 (askP R L P k T).2 → (∀ e, (askP R L P k T).2 = some e → opn M L (askP R L P k T).1 G' k) → (∀ v, k < v → lvC M v G1 G') → (k = L.length → post none G') ∧ (k ≠ L.length → gW p l e (grm 7 0 0) s m args below meth c D base 5 (MQ below (gQ D base post) args s 0 0 fun q => base ≤ q) 0 0 9 [some (.ref M), some (.int (nI j)), some (.int (nI (k + 1))), some (.int 0), none] [] G')) →
        gW p l e (grm 7 0 0) s m args below meth c D base 5 (MQ below (gQ D base post) args s 0 0 fun q => base ≤ q) 0 0 9 [some (.ref M), some (.int (nI j)), some (.int (nI k)), some (.int 1), none] [] G1 := by
      intro k
      induction k with
      | zero =>
        intro _ T G1 hIT hlP hov hR hop hf hE hA
        have hF4 : tF T ≤ 4 := hIT.2.2.2.2.2.2.1
        refine hd _ _ T G1 hR hov hF4 ?_
        have s0 := hR.1.1.1
        have ca : gi G1 M 22 = nI (tA T) := hR.2.1.2.2.1
        have hA4 := hIT.2.2.1
        have c4 : (nI (tA T) = 400) = (tA T = 400) := by rw [i400]; exact nI_eq_e (by omega) (by omega)
        have cz : (nI 0 = 0) = True := eq_true rfl
        refine gw1_ok (cuts := [9, 91, 108, 70]) O 100 ?_
        simp only [gwp_s dX7_ask_0, gw1_s dX7_ask_0, gwp_s dX7_ask_1, gw1_s dX7_ask_1, gwp_s dX7_ask_4, gw1_s dX7_ask_4, gwp_s dX7_ask_5, gw1_s dX7_ask_5, gwp_s dX7_ask_6, gw1_s dX7_ask_6, gwp_s dX7_ask_7, gw1_s dX7_ask_7, gwp_s dX7_ask_8, gw1_s dX7_ask_8, gwp_s dX7_ask_9, gw1_s dX7_ask_9, gwp_s dX7_ask_10, gw1_s dX7_ask_10, gwp_s dX7_ask_13, gw1_s dX7_ask_13, gwp_s dX7_ask_16, gw1_s dX7_ask_16, gwp_s dX7_ask_18, gw1_s dX7_ask_18, gwp_s dX7_ask_19, gw1_s dX7_ask_19, gwp_s dX7_ask_20, gw1_s dX7_ask_20, gwp_s dX7_ask_21, gw1_s dX7_ask_21, gwp_s dX7_ask_22, gw1_s dX7_ask_22, gwp_s dX7_ask_23, gw1_s dX7_ask_23, gwp_s dX7_ask_24, gw1_s dX7_ask_24, gwp_s dX7_ask_26, gw1_s dX7_ask_26, gwp_s dX7_ask_27, gw1_s dX7_ask_27, gwp_s dX7_ask_30, gw1_s dX7_ask_30, gwp_s dX7_ask_31, gw1_s dX7_ask_31, gwp_s dX7_ask_34, gw1_s dX7_ask_34, gwp_s dX7_ask_37, gw1_s dX7_ask_37, gwp_s dX7_ask_40, gw1_s dX7_ask_40, gwp_s dX7_ask_41, gw1_s dX7_ask_41, gwp_s dX7_ask_42, gw1_s dX7_ask_42, gwp_s dX7_ask_45, gw1_s dX7_ask_45, gwp_s dX7_ask_46, gw1_s dX7_ask_46, gwp_s dX7_ask_47, gw1_s dX7_ask_47, gwp_s dX7_ask_48, gw1_s dX7_ask_48, gwp_s dX7_ask_51, gw1_s dX7_ask_51, gwp_s dX7_ask_52, gw1_s dX7_ask_52, gwp_s dX7_ask_53, gw1_s dX7_ask_53, gwp_s dX7_ask_56, gw1_s dX7_ask_56, gwp_s dX7_ask_57, gw1_s dX7_ask_57, gwp_s dX7_ask_60, gw1_s dX7_ask_60, gwp_s dX7_ask_61, gw1_s dX7_ask_61, gwp_s dX7_ask_62, gw1_s dX7_ask_62, gwp_s dX7_ask_65, gw1_s dX7_ask_65, gwp_s dX7_ask_66, gw1_s dX7_ask_66, gwp_s dX7_ask_67, gw1_s dX7_ask_67, gwp_s dX7_ask_70, gw1_s dX7_ask_70, gwp_s dX7_ask_71, gw1_s dX7_ask_71, gwp_s dX7_ask_72, gw1_s dX7_ask_72, gwp_s dX7_ask_74, gw1_s dX7_ask_74, gwp_s dX7_ask_77, gw1_s dX7_ask_77, gwp_s dX7_ask_80, gw1_s dX7_ask_80, gwp_s dX7_ask_81, gw1_s dX7_ask_81, gwp_s dX7_ask_82, gw1_s dX7_ask_82, gwp_s dX7_ask_85, gw1_s dX7_ask_85, gwp_s dX7_ask_88, gw1_s dX7_ask_88, gwp_s dX7_ask_91, gw1_s dX7_ask_91, gwp_s dX7_ask_92, gw1_s dX7_ask_92, gwp_s dX7_ask_93, gw1_s dX7_ask_93, gwp_s dX7_ask_96, gw1_s dX7_ask_96, gwp_s dX7_ask_97, gw1_s dX7_ask_97, gwp_s dX7_ask_98, gw1_s dX7_ask_98, gwp_s dX7_ask_101, gw1_s dX7_ask_101, gwp_s dX7_ask_102, gw1_s dX7_ask_102, gwp_s dX7_ask_105, gw1_s dX7_ask_105, gwp_s dX7_ask_108, gw1_s dX7_ask_108, gwp_s dX7_ask_109, gw1_s dX7_ask_109, gwp_s dX7_ask_110, gw1_s dX7_ask_110, gwp_s dX7_ask_112, gw1_s dX7_ask_112, gwp_s dX7_ask_115, gw1_s dX7_ask_115, gwp_s dX7_ask_118, gw1_s dX7_ask_118, gwp_s dX7_ask_121, gw1_s dX7_ask_121, gwp_s dX7_ask_122, gw1_s dX7_ask_122, gwp_s dX7_ask_123, gw1_s dX7_ask_123, gwp_s dX7_ask_126, gw1_s dX7_ask_126, gwp_s dX7_ask_127, gw1_s dX7_ask_127, gwp_s dX7_ask_128, gw1_s dX7_ask_128, gwp_s dX7_ask_131, gw1_s dX7_ask_131, gwp_s dX7_ask_132, gw1_s dX7_ask_132, gwp_s dX7_ask_133, gw1_s dX7_ask_133, gwp_s dX7_ask_136, gw1_s dX7_ask_136, gwp_s dX7_ask_137, gw1_s dX7_ask_137, gwp_s dX7_ask_140, gw1_s dX7_ask_140, gwp_s dX7_ask_143, gw1_s dX7_ask_143, cty_6_22, cty_6_25, cty_6_8, fl_7_145, fl_7_180, fl_7_32, gtg_eq 105 (-96) 9 (by decide), gtg_eq 115 11 126 (by decide), gtg_eq 123 (-114) 9 (by decide), gtg_eq 13 130 143 (by decide), gtg_eq 133 4 137 (by decide), gtg_eq 140 (-131) 9 (by decide), gtg_eq 27 81 108 (by decide), gtg_eq 37 9 46 (by decide), gtg_eq 57 13 70 (by decide), gtg_eq 67 24 91 (by decide), gtg_eq 77 8 85 (by decide), gtg_eq 82 9 91 (by decide), gtg_eq 88 (-79) 9 (by decide), gtg_eq 98 4 102 (by decide), gx_aload_n_0, gx_bipush_10, gx_dup, gx_getfield, gx_goto, gx_iadd, gx_iaload, gx_iconst_0, gx_iconst_1, gx_ifCond_eq, gx_ifCond_ne, gx_if_icmp_ne, gx_iinc_1, gx_iinc_m1, gx_iload, gx_iload_n_1, gx_iload_n_2, gx_iload_n_3, gx_imul, gx_invokevirtual, gx_istore, gx_istore_n_2, gx_istore_n_3, gx_isub, gx_putfield, gx_return_, gx_sipush_400, gn_self, g1i_c, g2i_c, g1l_c, g2l_c, gil_c, g1r_c, g1q_c, g1q_n, goq_c, gvr_c, gir_c, giir_c, glir_c, gqir_c, gqir_n, gdup_i, gdup_r, gdup2_l, gdup2_ir, gdup2_ii, goi_c, gol_c, gor_c, gor_n, gpv_i, gpv_z, gpv_l, gpv_o, gpv_a, fval_i, fval_z, fval_l, fval_o, fval_a, va_rf_s, va_rf_n, lnw_i, lnw_r, lnw_n, lnw_0, lnw_l, gcat_0, gcat_i, gcat_l, gcat_r, gcat_n, grcv_0, grcv_s, gRET_i, gRET_z, gRET_l, gRET_v, lg_0, lg_s, ls1_0, ls1_1, ls1_s, ls2_0, ls2_1, ls2_s, lpad_0, lpad_n, lpad_c, lent_0, lent_i, lent_l, lent_r, lent_n, gsh_si, gsh_sl, gsh_sr, gr_si, gr_sl, gi_sl, gi_sr, gl_si, gl_sr, List.contains_nil, List.contains_cons, Bool.false_eq_true, if_false, if_true, true_and, and_true, true_or, or_true, Nat.le_refl, Nat.zero_le, List.take_succ_cons, List.take_zero, List.drop_succ_cons, List.drop_zero, List.reverse_cons, List.reverse_nil, List.nil_append, List.cons_append, List.append_nil, List.length_cons, List.length_nil, Option.toList_some, Option.toList_none, Nat.add_zero, Nat.zero_add, Nat.reduceAdd, Nat.reduceLT, Nat.reduceLeDiff, Nat.reduceEqDiff, Nat.reduceBEq, Nat.reduceMul, Nat.reduceSub, ↓reduceIte, reduceCtorEq, Int32.reduceLE, Int32.reduceLT, Int32.reduceAdd, Int32.reduceSub, Int32.reduceMul, Int32.reduceToNatClampNeg, Int64.reduceLT, Int64.reduceLE, Bool.or_false, Bool.false_or, Bool.or_true, Bool.true_or, and_false, false_and, or_false, false_or, not_true_eq_false, not_false_eq_true, gcall, glup_c, gbr_T, gbr_F, List.zip_cons_cons, List.zip_nil_right, List.zip_nil_left, List.all_cons, List.all_nil, Bool.and_true, Int.reduceLT, decide_true, decide_eq_true_eq, cmp_eq, cmp_le, cmp_lt, cmp_ge, cmp_gt, b2_e0, b2_e1, bz_e0, bz_e1, gbr_N, ne01, ne10, nem0, nem1, vp_in0, m1lt0, m1ge0, s0, ca, c4, cz, nI_1 (tA T)]
        refine gbr_i (fun h4 => ?_) (fun h4 => ?_)
        · have hX : askP R L P 0 T = (sSp T, none) := ent_s hov (by omega)
          rw [hX] at hE
          refine hE _ (hf.f (by decide)) (Or.inl rfl) ?_
          obtain ⟨q1, q2, q3, q4, q5⟩ := hR.2.1
          exact ⟨by rw [gi_kn (by decide)]; exact q1, by rw [gi_kn (by decide)]; exact q2, by rw [gi_kn (by decide)]; exact q3, by rw [gi_kn (by decide)]; exact q4, gi_eq⟩
        · have hX : askP R L P 0 T = srcP R P (sAk T) := ent_g hov (by omega)
          rw [hX] at hE hA
          have hI1 := hIT.ak (by omega)
          refine ⟨M, j, L.length - 0, R, L, P, sAk T, rfl, hR.a, hj, hI, hP, hI1, fun G2 g1 g2 g3 g4 g5 => ?_⟩
          simp only [gn_self, g1i_c, g2i_c, g1l_c, g2l_c, gil_c, g1r_c, g1q_c, g1q_n, goq_c, gvr_c, gir_c, giir_c, glir_c, gqir_c, gqir_n, gdup_i, gdup_r, gdup2_l, gdup2_ir, gdup2_ii, goi_c, gol_c, gor_c, gor_n, gpv_i, gpv_z, gpv_l, gpv_o, gpv_a, fval_i, fval_z, fval_l, fval_o, fval_a, va_rf_s, va_rf_n, lnw_i, lnw_r, lnw_n, lnw_0, lnw_l, gcat_0, gcat_i, gcat_l, gcat_r, gcat_n, grcv_0, grcv_s, gRET_i, gRET_z, gRET_l, gRET_v, lg_0, lg_s, ls1_0, ls1_1, ls1_s, ls2_0, ls2_1, ls2_s, lpad_0, lpad_n, lpad_c, lent_0, lent_i, lent_l, lent_r, lent_n, gsh_si, gsh_sl, gsh_sr, gr_si, gr_sl, gi_sl, gi_sr, gl_si, gl_sr, List.contains_nil, List.contains_cons, Bool.false_eq_true, if_false, if_true, true_and, and_true, true_or, or_true, Nat.le_refl, Nat.zero_le, List.take_succ_cons, List.take_zero, List.drop_succ_cons, List.drop_zero, List.reverse_cons, List.reverse_nil, List.nil_append, List.cons_append, List.append_nil, List.length_cons, List.length_nil, Option.toList_some, Option.toList_none, Nat.add_zero, Nat.zero_add, Nat.reduceAdd, Nat.reduceLT, Nat.reduceLeDiff, Nat.reduceEqDiff, Nat.reduceBEq, Nat.reduceMul, Nat.reduceSub, ↓reduceIte, reduceCtorEq, Int32.reduceLE, Int32.reduceLT, Int32.reduceAdd, Int32.reduceSub, Int32.reduceMul, Int32.reduceToNatClampNeg, Int64.reduceLT, Int64.reduceLE, Bool.or_false, Bool.false_or, Bool.or_true, Bool.true_or, and_false, false_and, or_false, false_or, not_true_eq_false, not_false_eq_true, gcall, glup_c, gbr_T, gbr_F, List.zip_cons_cons, List.zip_nil_right, List.zip_nil_left, List.all_cons, List.all_nil, Bool.and_true, Int.reduceLT, decide_true, decide_eq_true_eq, cmp_eq, cmp_le, cmp_lt, cmp_ge, cmp_gt, b2_e0, b2_e1, bz_e0, bz_e1, gbr_N, ne01, ne10, nem0, nem1, vp_in0, m1lt0, m1ge0]
          have hf2 := (hf.f (k := 22) (x := nI (tA T + 1)) (by decide)).tr g1
          by_cases ho : tOv (srcP R P (sAk T)).1
          · have hF5 : tF (srcP R P (sAk T)).1 ≤ 4 := (gd_src (R := R) (P := P) hI1 hov).1.2.2.2.2.2.2.1
            refine (up 91 0 G2 (Or.inl rfl) (by omega) hf2 (fun _ => hE G2 hf2 ho g4.2.1) (fun _ => hx _ _ _ G2 hf2 g4.2.1 ho hF5 (hE G2 hf2 ho g4.2.1))).le (by simp [lle])
          · obtain ⟨u1, u2⟩ := hA G2 hf2 ho g4 g5 (fun _ _ => trivial) (fun v hv => (lvC.rf.o (by omega)).tr (g2 v (by omega)))
            exact (up 91 0 G2 (Or.inl rfl) (by omega) hf2 u1 u2).le (by simp [lle])
      | succ k ih =>
        intro hk T G1 hIT hlP hov hR hop hf hE hA
        have hkl : k < L.length := by omega
        have hF4 : tF T ≤ 4 := hIT.2.2.2.2.2.2.1
        have hA4 := hIT.2.2.1
        have e1 : L.length - (k + 1) + 1 = L.length - k := by omega
        have finO : ∀ (X : sT × Option Nat) (G' : gS), askP R L P (k + 1) T = X → rF M G G' → tOv X.1 → cM M X.1 G' → post none G' := fun X G' hX h1 h2 h3 => hE G' h1 (by rw [hX]; exact h2) (by rw [hX]; exact h3)
        have finU : ∀ (pcs : Nat) (X : sT × Option Nat) (G' : gS), (pcs = 91 ∨ pcs = 126) → askP R L P (k + 1) T = X → rF M G G' → ¬ tOv X.1 → RM M j R L P X.1 G' → gi G' M 32 = on1 X.2 → (∀ e, X.2 = some e → opn M L X.1 G' (k + 1)) → (∀ v, k + 1 < v → lvC M v G1 G') → gW p l e (grm 7 0 0) s m args below meth c D base 5 (MQ below (gQ D base post) args s 0 0 fun q => base ≤ q) 0 0 pcs [some (.ref M), some (.int (nI j)), some (.int (nI (k + 1))), some (.int 0), none] [] G' := by
          intro pcs X G' hpc hX h1 h2 h3 h4 h5 h6
          obtain ⟨u1, u2⟩ := hA G' h1 (by rw [hX]; exact h2) (by rw [hX]; exact h3) (by rw [hX]; exact h4) (by rw [hX]; exact h5) h6
          exact up pcs (k + 1) G' hpc (by omega) h1 u1 u2
        have finX : ∀ (X : sT × Option Nat) (G' : gS), askP R L P (k + 1) T = X → rF M G G' → tOv X.1 → tF X.1 ≤ 4 → cM M X.1 G' → gW p l e (grm 7 0 0) s m args below meth c D base 5 (MQ below (gQ D base post) args s 0 0 fun q => base ≤ q) 0 0 126 [some (.ref M), some (.int (nI j)), some (.int (nI (k + 1))), some (.int 0), none] [] G' := fun X G' hX h1 h2 h3 h4 => up 126 (k + 1) G' (Or.inr rfl) (by omega) h1 (fun _ => finO X G' hX h1 h2 h4) (fun _ => hx _ _ _ G' h1 h4 h2 h3 (finO X G' hX h1 h2 h4))
        refine hd _ _ T G1 hR hov hF4 ?_
        have s0 := hR.1.1.1
        have ca : gi G1 M 22 = nI (tA T) := hR.2.1.2.2.1
        have c4 : (nI (tA T) = 400) = (tA T = 400) := by rw [i400]; exact nI_eq_e (by omega) (by omega)
        have cz : (nI (k + 1) = 0) = False := eq_false (by rw [i0, nI_eq_e (by omega) (by omega)]; omega)
        have c1 : (10 : Int32) * nI j + nI (k + 1) = nI (10 * j + k + 1) := by rw [i10, nI_mu, nI_ad]; congr 1
        refine gw1_ok (cuts := [9, 91, 108, 60]) O 100 ?_
        simp only [gwp_s dX7_ask_0, gw1_s dX7_ask_0, gwp_s dX7_ask_1, gw1_s dX7_ask_1, gwp_s dX7_ask_4, gw1_s dX7_ask_4, gwp_s dX7_ask_5, gw1_s dX7_ask_5, gwp_s dX7_ask_6, gw1_s dX7_ask_6, gwp_s dX7_ask_7, gw1_s dX7_ask_7, gwp_s dX7_ask_8, gw1_s dX7_ask_8, gwp_s dX7_ask_9, gw1_s dX7_ask_9, gwp_s dX7_ask_10, gw1_s dX7_ask_10, gwp_s dX7_ask_13, gw1_s dX7_ask_13, gwp_s dX7_ask_16, gw1_s dX7_ask_16, gwp_s dX7_ask_18, gw1_s dX7_ask_18, gwp_s dX7_ask_19, gw1_s dX7_ask_19, gwp_s dX7_ask_20, gw1_s dX7_ask_20, gwp_s dX7_ask_21, gw1_s dX7_ask_21, gwp_s dX7_ask_22, gw1_s dX7_ask_22, gwp_s dX7_ask_23, gw1_s dX7_ask_23, gwp_s dX7_ask_24, gw1_s dX7_ask_24, gwp_s dX7_ask_26, gw1_s dX7_ask_26, gwp_s dX7_ask_27, gw1_s dX7_ask_27, gwp_s dX7_ask_30, gw1_s dX7_ask_30, gwp_s dX7_ask_31, gw1_s dX7_ask_31, gwp_s dX7_ask_34, gw1_s dX7_ask_34, gwp_s dX7_ask_37, gw1_s dX7_ask_37, gwp_s dX7_ask_40, gw1_s dX7_ask_40, gwp_s dX7_ask_41, gw1_s dX7_ask_41, gwp_s dX7_ask_42, gw1_s dX7_ask_42, gwp_s dX7_ask_45, gw1_s dX7_ask_45, gwp_s dX7_ask_46, gw1_s dX7_ask_46, gwp_s dX7_ask_47, gw1_s dX7_ask_47, gwp_s dX7_ask_48, gw1_s dX7_ask_48, gwp_s dX7_ask_51, gw1_s dX7_ask_51, gwp_s dX7_ask_52, gw1_s dX7_ask_52, gwp_s dX7_ask_53, gw1_s dX7_ask_53, gwp_s dX7_ask_56, gw1_s dX7_ask_56, gwp_s dX7_ask_57, gw1_s dX7_ask_57, gwp_s dX7_ask_60, gw1_s dX7_ask_60, gwp_s dX7_ask_61, gw1_s dX7_ask_61, gwp_s dX7_ask_62, gw1_s dX7_ask_62, gwp_s dX7_ask_65, gw1_s dX7_ask_65, gwp_s dX7_ask_66, gw1_s dX7_ask_66, gwp_s dX7_ask_67, gw1_s dX7_ask_67, gwp_s dX7_ask_70, gw1_s dX7_ask_70, gwp_s dX7_ask_71, gw1_s dX7_ask_71, gwp_s dX7_ask_72, gw1_s dX7_ask_72, gwp_s dX7_ask_74, gw1_s dX7_ask_74, gwp_s dX7_ask_77, gw1_s dX7_ask_77, gwp_s dX7_ask_80, gw1_s dX7_ask_80, gwp_s dX7_ask_81, gw1_s dX7_ask_81, gwp_s dX7_ask_82, gw1_s dX7_ask_82, gwp_s dX7_ask_85, gw1_s dX7_ask_85, gwp_s dX7_ask_88, gw1_s dX7_ask_88, gwp_s dX7_ask_91, gw1_s dX7_ask_91, gwp_s dX7_ask_92, gw1_s dX7_ask_92, gwp_s dX7_ask_93, gw1_s dX7_ask_93, gwp_s dX7_ask_96, gw1_s dX7_ask_96, gwp_s dX7_ask_97, gw1_s dX7_ask_97, gwp_s dX7_ask_98, gw1_s dX7_ask_98, gwp_s dX7_ask_101, gw1_s dX7_ask_101, gwp_s dX7_ask_102, gw1_s dX7_ask_102, gwp_s dX7_ask_105, gw1_s dX7_ask_105, gwp_s dX7_ask_108, gw1_s dX7_ask_108, gwp_s dX7_ask_109, gw1_s dX7_ask_109, gwp_s dX7_ask_110, gw1_s dX7_ask_110, gwp_s dX7_ask_112, gw1_s dX7_ask_112, gwp_s dX7_ask_115, gw1_s dX7_ask_115, gwp_s dX7_ask_118, gw1_s dX7_ask_118, gwp_s dX7_ask_121, gw1_s dX7_ask_121, gwp_s dX7_ask_122, gw1_s dX7_ask_122, gwp_s dX7_ask_123, gw1_s dX7_ask_123, gwp_s dX7_ask_126, gw1_s dX7_ask_126, gwp_s dX7_ask_127, gw1_s dX7_ask_127, gwp_s dX7_ask_128, gw1_s dX7_ask_128, gwp_s dX7_ask_131, gw1_s dX7_ask_131, gwp_s dX7_ask_132, gw1_s dX7_ask_132, gwp_s dX7_ask_133, gw1_s dX7_ask_133, gwp_s dX7_ask_136, gw1_s dX7_ask_136, gwp_s dX7_ask_137, gw1_s dX7_ask_137, gwp_s dX7_ask_140, gw1_s dX7_ask_140, gwp_s dX7_ask_143, gw1_s dX7_ask_143, cty_6_22, cty_6_25, cty_6_8, fl_7_145, fl_7_180, fl_7_32, gtg_eq 105 (-96) 9 (by decide), gtg_eq 115 11 126 (by decide), gtg_eq 123 (-114) 9 (by decide), gtg_eq 13 130 143 (by decide), gtg_eq 133 4 137 (by decide), gtg_eq 140 (-131) 9 (by decide), gtg_eq 27 81 108 (by decide), gtg_eq 37 9 46 (by decide), gtg_eq 57 13 70 (by decide), gtg_eq 67 24 91 (by decide), gtg_eq 77 8 85 (by decide), gtg_eq 82 9 91 (by decide), gtg_eq 88 (-79) 9 (by decide), gtg_eq 98 4 102 (by decide), gx_aload_n_0, gx_bipush_10, gx_dup, gx_getfield, gx_goto, gx_iadd, gx_iaload, gx_iconst_0, gx_iconst_1, gx_ifCond_eq, gx_ifCond_ne, gx_if_icmp_ne, gx_iinc_1, gx_iinc_m1, gx_iload, gx_iload_n_1, gx_iload_n_2, gx_iload_n_3, gx_imul, gx_invokevirtual, gx_istore, gx_istore_n_2, gx_istore_n_3, gx_isub, gx_putfield, gx_return_, gx_sipush_400, gn_self, g1i_c, g2i_c, g1l_c, g2l_c, gil_c, g1r_c, g1q_c, g1q_n, goq_c, gvr_c, gir_c, giir_c, glir_c, gqir_c, gqir_n, gdup_i, gdup_r, gdup2_l, gdup2_ir, gdup2_ii, goi_c, gol_c, gor_c, gor_n, gpv_i, gpv_z, gpv_l, gpv_o, gpv_a, fval_i, fval_z, fval_l, fval_o, fval_a, va_rf_s, va_rf_n, lnw_i, lnw_r, lnw_n, lnw_0, lnw_l, gcat_0, gcat_i, gcat_l, gcat_r, gcat_n, grcv_0, grcv_s, gRET_i, gRET_z, gRET_l, gRET_v, lg_0, lg_s, ls1_0, ls1_1, ls1_s, ls2_0, ls2_1, ls2_s, lpad_0, lpad_n, lpad_c, lent_0, lent_i, lent_l, lent_r, lent_n, gsh_si, gsh_sl, gsh_sr, gr_si, gr_sl, gi_sl, gi_sr, gl_si, gl_sr, List.contains_nil, List.contains_cons, Bool.false_eq_true, if_false, if_true, true_and, and_true, true_or, or_true, Nat.le_refl, Nat.zero_le, List.take_succ_cons, List.take_zero, List.drop_succ_cons, List.drop_zero, List.reverse_cons, List.reverse_nil, List.nil_append, List.cons_append, List.append_nil, List.length_cons, List.length_nil, Option.toList_some, Option.toList_none, Nat.add_zero, Nat.zero_add, Nat.reduceAdd, Nat.reduceLT, Nat.reduceLeDiff, Nat.reduceEqDiff, Nat.reduceBEq, Nat.reduceMul, Nat.reduceSub, ↓reduceIte, reduceCtorEq, Int32.reduceLE, Int32.reduceLT, Int32.reduceAdd, Int32.reduceSub, Int32.reduceMul, Int32.reduceToNatClampNeg, Int64.reduceLT, Int64.reduceLE, Bool.or_false, Bool.false_or, Bool.or_true, Bool.true_or, and_false, false_and, or_false, false_or, not_true_eq_false, not_false_eq_true, gcall, glup_c, gbr_T, gbr_F, List.zip_cons_cons, List.zip_nil_right, List.zip_nil_left, List.all_cons, List.all_nil, Bool.and_true, Int.reduceLT, decide_true, decide_eq_true_eq, cmp_eq, cmp_le, cmp_lt, cmp_ge, cmp_gt, b2_e0, b2_e1, bz_e0, bz_e1, gbr_N, ne01, ne10, nem0, nem1, vp_in0, m1lt0, m1ge0, s0, ca, c4, cz, c1, nI_pred, ad_m1, nI_1 (tA T)]
        refine gbr_i (fun h4 => ?_) (fun h4 => ?_)
        · have hX : askP R L P (k + 1) T = (sSp T, none) := ent_s hov (by omega)
          refine finO _ _ hX (hf.f (by decide)) (Or.inl rfl) ?_
          obtain ⟨q1, q2, q3, q4, q5⟩ := hR.2.1
          exact ⟨by rw [gi_kn (by decide)]; exact q1, by rw [gi_kn (by decide)]; exact q2, by rw [gi_kn (by decide)]; exact q3, by rw [gi_kn (by decide)]; exact q4, gi_eq⟩
        · have hX : askP R L P (k + 1) T = actP R L k (L.getD k []) (askP R L P k) (sAk T) := ent_g hov (by omega)
          have hI1 : IT L (L.length - k) (sAk T) := by rw [← e1]; exact hIT.ak (by omega)
          have hR1 : RM M j R L P (sAk T) (si G1 M 22 (nI (tA T + 1))) := hR.a
          have hf1 : rF M G (si G1 M 22 (nI (tA T + 1))) := hf.f (by decide)
          have hl1 : lP (sAk T) := hlP
          have hv1 : ¬ tOv (sAk T) := hov
          have hc1 : ∀ v, lvC M v G1 (si G1 M 22 (nI (tA T + 1))) := fun v => lvC.rf.o (by omega)
          have ho1 : opn M L (sAk T) (si G1 M 22 (nI (tA T + 1))) (k + 1) := hop.fr (hlP.l hIT) (fun v _ _ => ⟨rfl, rfl, rfl, rfl⟩) (by rw [tA_sAk]; omega) (fun v _ _ => hc1 v)
          suffices hS : ∀ K : Option Value → gS → Prop, (∀ G', gW p l e (grm 7 0 0) s m args below meth c D base 5 (MQ below (gQ D base post) args s 0 0 fun q => base ≤ q) 0 0 91 [some (.ref M), some (.int (nI j)), some (.int (nI (k + 1))), some (.int 0), none] [] G' → K (some (.int 1)) G') → (∀ G', gW p l e (grm 7 0 0) s m args below meth c D base 5 (MQ below (gQ D base post) args s 0 0 fun q => base ≤ q) 0 0 9 [some (.ref M), some (.int (nI j)), some (.int (nI k)), some (.int 1), none] [] G' → K (some (.int 0)) G') → S_X7_answersAtOnce [.ref M, .int (nI (k + 1)), .int (nI (10 * j + k))] (si G1 M 22 (nI (tA T + 1))) K from by
            refine hS _ (fun G' hG => ?_) (fun G' hG => ?_)
            · simp only [gn_self, g1i_c, g2i_c, g1l_c, g2l_c, gil_c, g1r_c, g1q_c, g1q_n, goq_c, gvr_c, gir_c, giir_c, glir_c, gqir_c, gqir_n, gdup_i, gdup_r, gdup2_l, gdup2_ir, gdup2_ii, goi_c, gol_c, gor_c, gor_n, gpv_i, gpv_z, gpv_l, gpv_o, gpv_a, fval_i, fval_z, fval_l, fval_o, fval_a, va_rf_s, va_rf_n, lnw_i, lnw_r, lnw_n, lnw_0, lnw_l, gcat_0, gcat_i, gcat_l, gcat_r, gcat_n, grcv_0, grcv_s, gRET_i, gRET_z, gRET_l, gRET_v, lg_0, lg_s, ls1_0, ls1_1, ls1_s, ls2_0, ls2_1, ls2_s, lpad_0, lpad_n, lpad_c, lent_0, lent_i, lent_l, lent_r, lent_n, gsh_si, gsh_sl, gsh_sr, gr_si, gr_sl, gi_sl, gi_sr, gl_si, gl_sr, List.contains_nil, List.contains_cons, Bool.false_eq_true, if_false, if_true, true_and, and_true, true_or, or_true, Nat.le_refl, Nat.zero_le, List.take_succ_cons, List.take_zero, List.drop_succ_cons, List.drop_zero, List.reverse_cons, List.reverse_nil, List.nil_append, List.cons_append, List.append_nil, List.length_cons, List.length_nil, Option.toList_some, Option.toList_none, Nat.add_zero, Nat.zero_add, Nat.reduceAdd, Nat.reduceLT, Nat.reduceLeDiff, Nat.reduceEqDiff, Nat.reduceBEq, Nat.reduceMul, Nat.reduceSub, ↓reduceIte, reduceCtorEq, Int32.reduceLE, Int32.reduceLT, Int32.reduceAdd, Int32.reduceSub, Int32.reduceMul, Int32.reduceToNatClampNeg, Int64.reduceLT, Int64.reduceLE, Bool.or_false, Bool.false_or, Bool.or_true, Bool.true_or, and_false, false_and, or_false, false_or, not_true_eq_false, not_false_eq_true, gcall, glup_c, gbr_T, gbr_F, List.zip_cons_cons, List.zip_nil_right, List.zip_nil_left, List.all_cons, List.all_nil, Bool.and_true, Int.reduceLT, decide_true, decide_eq_true_eq, cmp_eq, cmp_le, cmp_lt, cmp_ge, cmp_gt, b2_e0, b2_e1, bz_e0, bz_e1, gbr_N, ne01, ne10, nem0, nem1, vp_in0, m1lt0, m1ge0]; exact hG.le (by simp [lle])
            · simp only [gn_self, g1i_c, g2i_c, g1l_c, g2l_c, gil_c, g1r_c, g1q_c, g1q_n, goq_c, gvr_c, gir_c, giir_c, glir_c, gqir_c, gqir_n, gdup_i, gdup_r, gdup2_l, gdup2_ir, gdup2_ii, goi_c, gol_c, gor_c, gor_n, gpv_i, gpv_z, gpv_l, gpv_o, gpv_a, fval_i, fval_z, fval_l, fval_o, fval_a, va_rf_s, va_rf_n, lnw_i, lnw_r, lnw_n, lnw_0, lnw_l, gcat_0, gcat_i, gcat_l, gcat_r, gcat_n, grcv_0, grcv_s, gRET_i, gRET_z, gRET_l, gRET_v, lg_0, lg_s, ls1_0, ls1_1, ls1_s, ls2_0, ls2_1, ls2_s, lpad_0, lpad_n, lpad_c, lent_0, lent_i, lent_l, lent_r, lent_n, gsh_si, gsh_sl, gsh_sr, gr_si, gr_sl, gi_sl, gi_sr, gl_si, gl_sr, List.contains_nil, List.contains_cons, Bool.false_eq_true, if_false, if_true, true_and, and_true, true_or, or_true, Nat.le_refl, Nat.zero_le, List.take_succ_cons, List.take_zero, List.drop_succ_cons, List.drop_zero, List.reverse_cons, List.reverse_nil, List.nil_append, List.cons_append, List.append_nil, List.length_cons, List.length_nil, Option.toList_some, Option.toList_none, Nat.add_zero, Nat.zero_add, Nat.reduceAdd, Nat.reduceLT, Nat.reduceLeDiff, Nat.reduceEqDiff, Nat.reduceBEq, Nat.reduceMul, Nat.reduceSub, ↓reduceIte, reduceCtorEq, Int32.reduceLE, Int32.reduceLT, Int32.reduceAdd, Int32.reduceSub, Int32.reduceMul, Int32.reduceToNatClampNeg, Int64.reduceLT, Int64.reduceLE, Bool.or_false, Bool.false_or, Bool.or_true, Bool.true_or, and_false, false_and, or_false, false_or, not_true_eq_false, not_false_eq_true, gcall, glup_c, gbr_T, gbr_F, List.zip_cons_cons, List.zip_nil_right, List.zip_nil_left, List.all_cons, List.all_nil, Bool.and_true, Int.reduceLT, decide_true, decide_eq_true_eq, cmp_eq, cmp_le, cmp_lt, cmp_ge, cmp_gt, b2_e0, b2_e1, bz_e0, bz_e1, gbr_N, ne01, ne10, nem0, nem1, vp_in0, m1lt0, m1ge0]; exact hG.le (by simp [lle])
          clear hR hov hop hf hE hA hlP hIT ca c4 cz c1 s0
          generalize sAk T = T1 at *
          generalize si G1 M 22 (nI (tA T + 1)) = G2 at *
          have hA1 := hB _ (getD_mem hkl).2
          obtain ⟨hlv, hop⟩ := ho1
          generalize hAk : L.getD k [] = A at *
          have gd : ∀ T2, IT L (L.length - k) T2 → gdP L (L.length - k) T2 (askP R L P k T2) := fun T2 h => gd_ask (R := R) (P := P) hOA k _ (by omega) T2 h
          have kpf : ∀ T2, kp k T2 (askP R L P k T2).1 := kp_ask k
          have child : ∀ (T2 : sT) (G3 : gS), IT L (L.length - k) T2 → lP T2 → ¬ tOv T2 → RM M j R L P T2 G3 → opn M L T2 G3 k → rF M G G3 → ((askP R L P k T2).2 = none → tOv (askP R L P k T2).1 → askP R L P (k + 1) T = ((askP R L P k T2).1, none)) → (∀ G4, rF M G G4 → ¬ tOv (askP R L P k T2).1 → RM M j R L P (askP R L P k T2).1 G4 → gi G4 M 32 = on1 (askP R L P k T2).2 → (∀ e, (askP R L P k T2).2 = some e → opn M L (askP R L P k T2).1 G4 k) → (∀ v, k < v → lvC M v G3 G4) → gW p l e (grm 7 0 0) s m args below meth c D base 5 (MQ below (gQ D base post) args s 0 0 fun q => base ≤ q) 0 0 9 [some (.ref M), some (.int (nI j)), some (.int (nI (k + 1))), some (.int 0), none] [] G4) → gW p l e (grm 7 0 0) s m args below meth c D base 5 (MQ below (gQ D base post) args s 0 0 fun q => base ≤ q) 0 0 9 [some (.ref M), some (.int (nI j)), some (.int (nI k)), some (.int 1), none] [] G3 := by
            intro T2 G3 j1 j2 j3 j4 j5 j6 hO hN
            refine ih (by omega) T2 G3 j1 j2 j3 j4 j5 j6 (fun G' h1 h2 h3 => ?_) (fun G' h1 h2 h3 h4 h5 h6 => ⟨fun q => by omega, fun _ => hN G' h1 h2 h3 h4 h5 h6⟩)
            have hn : (askP R L P k T2).2 = none := by
              cases ho : (askP R L P k T2).2 with
              | none => rfl
              | some e => obtain ⟨_, z2, z3, _⟩ := (gd T2 j1).1.2.2 e ho; exact absurd h2 (tOv_i z2 z3)
            exact finO _ G' (hO hn h2) h1 h2 h3
          -- told none
          have hN1 : ∀ (T2 : sT) (G4 : gS), kd A ≠ 11 → IT L (L.length - k) T2 → rF M G G4 → ¬ tOv T2 → RM M j R L P T2 G4 → gi G4 M 32 = on1 none → (∀ v, k + 1 < v → lvC M v G1 G4) → askP R L P (k + 1) T = (T2, none) → gW p l e (grm 7 0 0) s m args below meth c D base 5 (MQ below (gQ D base post) args s 0 0 fun q => base ≤ q) 0 0 9 [some (.ref M), some (.int (nI j)), some (.int (nI (k + 1))), some (.int 0), none] [] G4 := by
            intro T2 G4 hkd j1 j2 j3 j4 j5 j6 j7
            refine he k T2 G4 hkl j4 j3 j1.2.2.2.2.2.2.1 (fun K k1 k0 => ⟨M, j, k, L.length - k, 0, R, L, P, T2, rfl, j4, hj, hI, hB, hkl, j1, (tOv_n j3).2, Or.inl ?_⟩)
            rw [hAk]
            exact ⟨j5, hkd, k1 _ (finU 126 (T2, none) _ (Or.inr rfl) j7 (j2.i (by omega) (by omega)) j3 (j4.v (by omega) (by omega) (by omega)) (by rw [gi_ne (by omega)]; exact j5) (fun e he => by cases he) (fun v hv => (j6 v hv).v (by omega) (by omega)))⟩
          -- told an element
          have hS1 : ∀ (T2 : sT) (G4 : gS) (ee : Nat), IT L (L.length - k) T2 → ¬ tOv T2 → RM M j R L P T2 G4 → ee < tN T2 → (∀ K : Option Value → gS → Prop, (∀ G', gW p l e (grm 7 0 0) s m args below meth c D base 5 (MQ below (gQ D base post) args s 0 0 fun q => base ≤ q) 0 0 126 [some (.ref M), some (.int (nI j)), some (.int (nI (k + 1))), some (.int 0), none] [] G' → K (some (.int 1)) G') → (∀ G', gW p l e (grm 7 0 0) s m args below meth c D base 5 (MQ below (gQ D base post) args s 0 0 fun q => base ≤ q) 0 0 9 [some (.ref M), some (.int (nI j)), some (.int (nI k)), some (.int 1), none] [] G' → K (some (.int 0)) G') → (hrM M j k A T2 ee G4 K ∨ hrT M j R L P A T2 ee G4 K ∨ hrK M k A T2 ee G4 K ∨ hrS M k A ee G4 K ∨ hrW M j k R L P A T2 ee G4 K ∨ hrQ M j k A T2 ee G4 K ∨ hrP M k A T2 ee G4 K)) → gW p l e (grm 7 0 0) s m args below meth c D base 5 (MQ below (gQ D base post) args s 0 0 fun q => base ≤ q) 0 0 9 [some (.ref M), some (.int (nI j)), some (.int (nI (k + 1))), some (.int 0), none] [] G4 := by
            intro T2 G4 ee j1 j3 j4 j5 hH
            refine he k T2 G4 hkl j4 j3 j1.2.2.2.2.2.2.1 (fun K k1 k0 => ⟨M, j, k, L.length - k, ee, R, L, P, T2, rfl, j4, hj, hI, hB, hkl, j1, (tOv_n j3).2, Or.inr (Or.inr ⟨j5, ?_⟩)⟩)
            rw [hAk]
            exact hH K k1 k0
          have opS : ∀ (T2 X1 : sT) (G4 G' : gS), opn M L T2 G4 k → (∀ v, (tL T2 v).length ≤ 400) → sameL k T2 X1 → (∀ v, 1 ≤ v → v ≤ k → lvC M v G4 G') → lvr M A (k + 1) X1 G' → gi G' (M + 19) (k + 1) = 0 → opn M L X1 G' (k + 1) := by
            intro T2 X1 G4 G' j1 j2 j3 j5 j6 j7
            refine ⟨by rw [hAk]; exact j6, Or.inr ⟨j7, j1.sl j2 j3 j5⟩⟩
          have hS2 : MS M j R L P G2 := hR1.1
          -- it doesn't answer at once
          have quiet : kd A ≠ 7 → (kd A = 11 → gi G2 (M + 22) (k + 1) = 0) → gi G2 (M + 19) (k + 1) = 0 → gW p l e (grm 7 0 0) s m args below meth c D base 5 (MQ below (gQ D base post) args s 0 0 fun q => base ≤ q) 0 0 9 [some (.ref M), some (.int (nI j)), some (.int (nI k)), some (.int 1), none] [] (si G2 M 32 (-1)) → ∀ K : Option Value → gS → Prop, (∀ G', gW p l e (grm 7 0 0) s m args below meth c D base 5 (MQ below (gQ D base post) args s 0 0 fun q => base ≤ q) 0 0 91 [some (.ref M), some (.int (nI j)), some (.int (nI (k + 1))), some (.int 0), none] [] G' → K (some (.int 1)) G') → (∀ G', gW p l e (grm 7 0 0) s m args below meth c D base 5 (MQ below (gQ D base post) args s 0 0 fun q => base ≤ q) 0 0 9 [some (.ref M), some (.int (nI j)), some (.int (nI k)), some (.int 1), none] [] G' → K (some (.int 0)) G') → S_X7_answersAtOnce [.ref M, .int (nI (k + 1)), .int (nI (10 * j + k))] G2 K := by
            intro h7 h11 h19 hG K k1 k0
            refine ⟨M, j, k, R, L, P, rfl, hS2, hj, hB, hkl, Or.inr (Or.inl ?_)⟩
            rw [hAk]
            exact ⟨h11, h19, h7, k0 _ hG⟩
          have hRm : RM M j R L P T1 (si G2 M 32 (-1)) := hR1.m
          have hfm : rF M G (si G2 M 32 (-1)) := hf1.f (by decide)
          have hcm : ∀ v, lvC M v G1 (si G2 M 32 (-1)) := fun v => (hc1 v).o (by omega)
          have hcm2 : ∀ v, lvC M v G2 (si G2 M 32 (-1)) := fun v => lvC.rf.o (by omega)
          have hll1 := hl1.l hI1
          have opm : ∀ T2 : sT, opn M L T1 G2 k → sameL k T1 T2 → opn M L T2 (si G2 M 32 (-1)) k := fun T2 h h2 => h.sl hll1 h2 (fun v _ _ => hcm2 v)
          have rest : kd A ≠ 11 → gi G2 (M + 19) (k + 1) = 0 ∧ opn M L T1 G2 k := fun h => by
            rcases hop with q | q
            · exact absurd q.1 h
            · exact q
          by_cases k3 : kd A ≤ 3
          · have n7 : kd A ≠ 7 := fun q => by rw [q] at k3; revert k3; decide
            have n8 : kd A ≠ 8 := fun q => by rw [q] at k3; revert k3; decide
            have n10 : kd A ≠ 10 := fun q => by rw [q] at k3; revert k3; decide
            have n11 : kd A ≠ 11 := fun q => by rw [q] at k3; revert k3; decide
            obtain ⟨h19, hopk⟩ := rest n11
            have hXm : askP R L P (k + 1) T = celP (mapP k (askP R L P k) T1) := by rw [hX]; unfold actP; rw [if_pos k3]
            refine quiet n7 (fun q => absurd q n11) h19 ?_
            refine child T1 _ hI1 hl1 hv1 hRm (opm T1 hopk sl_rf) hfm (fun hn _ => by rw [hXm]; unfold mapP; rw [hn]; rfl) (fun G4 h1 h2 h3 h4 h5 h6 => ?_)
            have g1 := gd T1 hI1
            have g11 : IT L (L.length - k) (askP R L P k T1).1 := g1.1.1
            cases ho : (askP R L P k T1).2 with
            | none =>
              rw [ho] at h4
              exact hN1 _ G4 n11 g1.1.1 h1 h2 h3 h4 (fun v hv => (hcm v).tr (h6 v (by omega))) (by rw [hXm]; unfold mapP; rw [ho]; rfl)
            | some ee =>
              rw [ho] at h4
              obtain ⟨d1, d2, d3, d4⟩ := g1.1.2.2 ee ho
              have hn4 : tN (askP R L P k T1).1 < 400 := by have q1 := g1.1.1.1; have q2 := g1.1.1.2.2.1; omega
              have hXs : askP R L P (k + 1) T = (sCl (sAd (askP R L P k T1).1 (1, 0, k, ee, none)), some (tN (askP R L P k T1).1)) := by rw [hXm]; unfold mapP; rw [ho, cel_s]
              have hll := ((kpf T1).2 hl1).l g1.1.1
              have hop2 := h5 ee ho
              generalize (askP R L P k T1).1 = T2 at *
              refine hS1 T2 G4 ee g11 h2 h3 d1 (fun K k1 k0 => Or.inl ⟨h4, k3, hn4, fun G' hG' => k1 G' ?_⟩)
              subst hG'
              have lv : ∀ v, lvC M v G4 (si (si (nwE M (tN T2) (nI ee) (-1) (nI (10 * j + k)) G4) M 32 (nI (tN T2))) M 21 (nI (tC T2 + 1))) := fun v => ((nw_v lvC.rf).o (by omega)).o (by omega)
              obtain ⟨z1, z2, z3, z4, z5⟩ := nw_c (M := M) (n := tN T2) (f := nI ee) (bf := -1) (ac := nI (10 * j + k)) (G := G4)
              refine finU 126 _ _ (Or.inr rfl) hXs (((nw_r h1).f (by decide)).f (by decide)) (nov_cl (nov_ad h2)) (fMap h3 hn4 (x := (1, 0, k, ee, none)) ⟨by simp, fun q => absurd q (by simp), fun _ => ⟨z1, z3, z5, hkl⟩, fun _ => ⟨z4, by rw [hAk]; exact k3⟩, fun q => absurd q (by simp), fun q => absurd q (by simp), fun q => absurd q (by simp)⟩) (by rw [gi_kn (by decide), gi_eq]; rfl) (fun _ _ => opS T2 _ G4 _ hop2 hll (sl_ad.tr sl_cl) (fun v _ _ => lv v) (lvr_x n7 n8 n10 n11) (by rw [(lv (k + 1)).1, (h6 (k + 1) (by omega)).1, (hcm2 (k + 1)).1]; exact h19)) (fun v hv => ((hcm v).tr (h6 v (by omega))).tr (lv v))
          by_cases k6 : kd A ≤ 6
          · have n7 : kd A ≠ 7 := fun q => by rw [q] at k6; revert k6; decide
            have n8 : kd A ≠ 8 := fun q => by rw [q] at k6; revert k6; decide
            have n10 : kd A ≠ 10 := fun q => by rw [q] at k6; revert k6; decide
            have n11 : kd A ≠ 11 := fun q => by rw [q] at k6; revert k6; decide
            obtain ⟨h19, hopk⟩ := rest n11
            have hXm : askP R L P (k + 1) T = celP (tstP R L A (askP R L P k) 401 T1) := by rw [hX]; unfold actP; rw [if_neg k3, if_pos k6]
            have loop : ∀ (n : Nat) (T2 : sT) (G3 : gS), 401 ≤ tA T2 + n → IT L (L.length - k) T2 → lP T2 → ¬ tOv T2 → RM M j R L P T2 G3 → opn M L T2 G3 k → rF M G G3 → gi G3 (M + 19) (k + 1) = 0 → (∀ v, k + 1 < v → lvC M v G1 G3) → askP R L P (k + 1) T = celP (tstP R L A (askP R L P k) n T2) → gW p l e (grm 7 0 0) s m args below meth c D base 5 (MQ below (gQ D base post) args s 0 0 fun q => base ≤ q) 0 0 9 [some (.ref M), some (.int (nI j)), some (.int (nI k)), some (.int 1), none] [] G3 := by
              intro n
              induction n with
              | zero => intro T2 G3 hn j1; have := j1.2.2.1; omega
              | succ n ihn =>
                intro T2 G3 hn j1 j2 j3 j4 j5 j6 j7 j8 j9
                refine child T2 G3 j1 j2 j3 j4 j5 j6 (fun hn _ => by rw [j9]; unfold tstP; rw [hn]; rfl) (fun G4 h1 h2 h3 h4 h5 h6 => ?_)
                have g1 := gd T2 j1
                have g11 : IT L (L.length - k) (askP R L P k T2).1 := g1.1.1
                cases ho : (askP R L P k T2).2 with
                | none =>
                  rw [ho] at h4
                  exact hN1 _ G4 n11 g1.1.1 h1 h2 h3 h4 (fun v hv => (j8 v hv).tr (h6 v (by omega))) (by rw [j9]; unfold tstP; rw [ho]; rfl)
                | some ee =>
                  rw [ho] at h4
                  obtain ⟨d1, d2, d3, d4⟩ := g1.1.2.2 ee ho
                  have hll := ((kpf T2).2 j2).l g1.1.1
                  have hlp := (kpf T2).2 j2
                  have hta := g1.2 ee ho
                  have hop2 := h5 ee ho
                  unfold tstP at j9
                  rw [ho] at j9
                  dsimp only at j9
                  generalize (askP R L P k T2).1 = T3 at *
                  have hw := (g11.wk (R := R) d1)
                  refine hS1 T3 G4 ee g11 h2 h3 d1 (fun K k1 k0 => Or.inr (Or.inl ⟨h4, by rw [ge4]; exact k3, k6, fun G5 q1 q2 q3 q4 q5 q6 => ⟨fun hz => k1 _ ?_, fun hz hp => k1 _ ?_, fun hz hp => k0 _ ?_⟩⟩))
                  · rw [if_pos hz, cel_n] at j9
                    exact finX (wkT R L ee T3, none) G5 j9 (h1.tr q1) (Or.inr hz) hw.1.2.2.2.2.2.2.1 q5
                  · rw [if_neg (not_not_intro hz), if_pos hp] at j9
                    have lv : ∀ v, lvC M v G4 (si G5 M 21 (nI (tC T3 + 1))) := fun v => (q2 v).o (by omega)
                    rw [cel_s] at j9
                    refine finU 126 (sCl (wkT R L ee T3), some ee) _ (Or.inr rfl) j9 ((h1.tr q1).f (by decide)) (nov_cl (nov_wk d2 hz)) (fTst (q6 hz)) (by rw [gi_kn (by decide), q3, h4]) (fun _ _ => opS T3 _ G4 _ hop2 hll (sl_wk.tr sl_cl) (fun v _ _ => lv v) (lvr_x n7 n8 n10 n11) (by rw [(lv (k + 1)).1, (h6 (k + 1) (by omega)).1]; exact j7)) (fun v hv => ((j8 v hv).tr (h6 v (by omega))).tr (lv v))
                  · rw [if_neg (not_not_intro hz), if_neg (by rw [hp]; decide)] at j9
                    have lv : ∀ v, lvC M v G4 (si G5 M 21 (nI (tC T3))) := fun v => (q2 v).o (by omega)
                    refine ihn (wkT R L ee T3) _ (by rw [tA_wkT]; omega) hw.1 (lP_wk hlp) (nov_wk d2 hz) (fTs0 (q6 hz)) (hop2.sl hll sl_wk (fun v _ _ => lv v)) ((h1.tr q1).f (by decide)) (by rw [(lv (k + 1)).1, (h6 (k + 1) (by omega)).1]; exact j7) (fun v hv => ((j8 v hv).tr (h6 v (by omega))).tr (lv v)) j9
            refine quiet n7 (fun q => absurd q n11) h19 ?_
            exact loop 401 T1 _ (by omega) hI1 hl1 hv1 hRm (opm T1 hopk sl_rf) hfm (by rw [(hcm2 (k + 1)).1]; exact h19) (fun v _ => hcm v) hXm
          by_cases k7 : kd A = 7
          · have n11 : kd A ≠ 11 := fun q => by rw [q] at k7; revert k7; decide
            obtain ⟨h19, hopk⟩ := rest n11
            obtain ⟨v20, vle⟩ := hlv.1 k7
            have hXm : askP R L P (k + 1) T = celP (takP (k + 1) (nu A) (askP R L P k) T1) := by rw [hX]; unfold actP; rw [if_neg k3, if_neg k6, if_pos k7]
            have hK100 : tK T1 (k + 1) ≤ 100 := hI1.2.2.2.2.2.2.2.2 (k + 1)
            intro K k1 k0
            refine ⟨M, j, k, R, L, P, rfl, hS2, hj, hB, hkl, Or.inr (Or.inr ?_)⟩
            rw [hAk]
            refine ⟨k7, h19, tK T1 (k + 1), v20, by omega, fun q => k1 _ ?_, fun q => k0 _ ?_⟩
            · refine finU 91 (T1, none) _ (Or.inl rfl) (by rw [hXm]; unfold takP; rw [if_pos (by rw [q]; exact Int64.le_refl _)]; rfl) hfm hv1 hRm gi_eq (fun e he => by cases he) (fun v _ => hcm v)
            · have hlt : ¬ nu A ≤ lN (tK T1 (k + 1)) := fun z => q (Int64.le_antisymm vle z)
              have hIK := hI1.K (hA1.1.2.2.2.2.2 k7) hlt
              have hXf : askP R L P (k + 1) T = celP (askP R L P k (sK T1 (k + 1))) := by rw [hXm]; unfold takP; rw [if_neg hlt]
              refine child (sK T1 (k + 1)) _ hIK (lP_K hl1) (nov_K hv1) hRm.K (opm (sK T1 (k + 1)) hopk sl_K) hfm (fun hn _ => by rw [hXf]; unfold celP; rw [hn]; exact Prod.ext rfl hn) (fun G4 h1 h2 h3 h4 h5 h6 => ?_)
              have g1 := gd _ hIK
              have g11 : IT L (L.length - k) (askP R L P k (sK T1 (k + 1))).1 := g1.1.1
              have hfr := (kpf (sK T1 (k + 1))).1 (k + 1) (by omega)
              cases ho : (askP R L P k (sK T1 (k + 1))).2 with
              | none =>
                rw [ho] at h4
                exact hN1 _ G4 n11 g1.1.1 h1 h2 h3 h4 (fun v hv => (hcm v).tr (h6 v (by omega))) (by rw [hXf]; unfold celP; rw [ho]; exact Prod.ext rfl ho)
              | some ee =>
                rw [ho] at h4
                obtain ⟨d1, d2, d3, d4⟩ := g1.1.2.2 ee ho
                have hll := ((kpf (sK T1 (k + 1))).2 (lP_K hl1)).l g11
                have hop2 := h5 ee ho
                have hXs : askP R L P (k + 1) T = (sCl (askP R L P k (sK T1 (k + 1))).1, some ee) := by rw [hXf]; unfold celP; rw [ho]
                have hkk : tK (askP R L P k (sK T1 (k + 1))).1 (k + 1) = tK T1 (k + 1) + 1 := by rw [hfr.1, tK_sK, va_s]
                generalize (askP R L P k (sK T1 (k + 1))).1 = T2 at *
                have h20 : gi G4 (M + 20) (k + 1) = nI (tK T1 (k + 1)) := by rw [(h6 (k + 1) (by omega)).2.1, (hcm2 (k + 1)).2.1]; exact v20
                refine hS1 T2 G4 ee g11 h2 h3 d1 (fun K k1 k0 => Or.inr (Or.inr (Or.inl ⟨h4, k7, tK T1 (k + 1), h20, k1 _ ?_⟩)))
                have lv : ∀ v, v ≠ k + 1 → lvC M v G4 (si (si G4 (M + 20) (k + 1) (nI (tK T1 (k + 1) + 1))) M 21 (nI (tC T2 + 1))) := fun v hv => (lvC.rf.v (by omega) hv).o (by omega)
                refine finU 126 _ _ (Or.inr rfl) hXs ((h1.i (by omega) (by omega)).f (by decide)) (nov_cl h2) (h3.v (by omega) (by omega) (fun _ => by omega)).cl (by rw [gi_kn (by decide), gi_ne (by omega), h4]) (fun _ _ => opS T2 _ G4 _ hop2 hll sl_cl (fun v _ hv => lv v (by omega)) ⟨fun _ => ⟨by rw [gi_ne (by omega), gi_eq, tK_sCl, hkk], by rw [tK_sCl, hkk]; exact lN_dl (Int64.not_le.mp hlt) (by omega)⟩, fun q => absurd (k7.symm.trans q) (by decide), fun q => absurd (k7.symm.trans q) (by decide), fun q => absurd (k7.symm.trans q) (by decide)⟩ (by rw [gi_ne (by omega), gi_ne (by omega), (h6 (k + 1) (by omega)).1, (hcm2 (k + 1)).1]; exact h19)) (fun v hv => ((hcm v).tr (h6 v (by omega))).tr (lv v (by omega)))
          by_cases k8 : kd A = 8
          · have n7 : kd A ≠ 7 := k7
            have n11 : kd A ≠ 11 := fun q => by rw [q] at k8; revert k8; decide
            obtain ⟨h19, hopk⟩ := rest n11
            obtain ⟨vf, vt⟩ := hlv.2.1 k8
            have hXm : askP R L P (k + 1) T = skpP (k + 1) (nu A) (askP R L P k) T1 := by rw [hX]; unfold actP; rw [if_neg k3, if_neg k6, if_neg k7, if_pos k8]
            have lvS : ∀ (X1 : sT) (G' : gS) (g : Nat), tB X1 (k + 1) = true → gi G' (M + 20) (k + 1) = nI g → nu A ≤ lN g → g ≤ tA X1 → lvr M A (k + 1) X1 G' := fun X1 G' g z1 z2 z3 z4 => ⟨fun q => absurd q n7, fun _ => ⟨fun q => (by rw [z1] at q; cases q), fun _ => ⟨g, z2, z3, z4⟩⟩, fun q => absurd (k8.symm.trans q) (by decide), fun q => absurd (k8.symm.trans q) (by decide)⟩
            -- the ask that is handed on
            have last : ∀ (T2 : sT) (G3 : gS) (g : Nat), IT L (L.length - k) T2 → lP T2 → ¬ tOv T2 → RM M j R L P T2 G3 → opn M L T2 G3 k → rF M G G3 → gi G3 (M + 19) (k + 1) = 0 → gi G3 (M + 20) (k + 1) = nI g → g ≤ tA T2 → nu A ≤ lN g → tB T2 (k + 1) = true → (∀ v, k + 1 < v → lvC M v G1 G3) → askP R L P (k + 1) T = askP R L P k T2 → gW p l e (grm 7 0 0) s m args below meth c D base 5 (MQ below (gQ D base post) args s 0 0 fun q => base ≤ q) 0 0 9 [some (.ref M), some (.int (nI j)), some (.int (nI k)), some (.int 1), none] [] G3 := by
              intro T2 G3 g j1 j2 j3 j4 j5 j6 j7 j8 j9 j10 j11 j12 j13
              refine child T2 G3 j1 j2 j3 j4 j5 j6 (fun hn _ => by rw [j13]; exact Prod.ext rfl hn) (fun G4 h1 h2 h3 h4 h5 h6 => ?_)
              have g1 := gd T2 j1
              have g11 : IT L (L.length - k) (askP R L P k T2).1 := g1.1.1
              cases ho : (askP R L P k T2).2 with
              | none =>
                rw [ho] at h4
                exact hN1 _ G4 n11 g11 h1 h2 h3 h4 (fun v hv => (j12 v hv).tr (h6 v (by omega))) (by rw [j13]; exact Prod.ext rfl ho)
              | some ee =>
                rw [ho] at h4
                obtain ⟨d1, d2, d3, d4⟩ := g1.1.2.2 ee ho
                have hta := g1.2 ee ho
                have hll := ((kpf T2).2 j2).l g11
                have hop2 := h5 ee ho
                have hXs : askP R L P (k + 1) T = ((askP R L P k T2).1, some ee) := by rw [j13]; exact Prod.ext rfl ho
                have hbb : tB (askP R L P k T2).1 (k + 1) = true := by rw [((kpf T2).1 (k + 1) (by omega)).2.1]; exact j11
                generalize (askP R L P k T2).1 = T3 at *
                have h20 : gi G4 (M + 20) (k + 1) = nI g := by rw [(h6 (k + 1) (by omega)).2.1]; exact j8
                have ha4 := g11.2.2.1
                have hxx : nu A < lN (g + 1) := lN_di (Int64.not_lt.mpr j10) (by omega)
                refine hS1 T3 G4 ee g11 h2 h3 d1 (fun K k1 k0 => Or.inr (Or.inr (Or.inr (Or.inl ⟨h4, k8, g, h20, by omega, fun _ => k1 _ ?_, fun q => absurd hxx q⟩))))
                have lv : ∀ v, v ≠ k + 1 → lvC M v G4 (si G4 (M + 20) (k + 1) (nI (g + 1))) := fun v hv => lvC.rf.v (by omega) hv
                exact finU 126 _ _ (Or.inr rfl) hXs (h1.i (by omega) (by omega)) h2 (h3.v (by omega) (by omega) (fun _ => by omega)) (by rw [gi_ne (by omega), h4]) (fun _ _ => opS T3 _ G4 _ hop2 hll sl_rf (fun v _ hv => lv v (by omega)) (lvS _ _ (g + 1) hbb gi_eq (Int64.le_of_lt hxx) (by show g + 1 ≤ tA T3; omega)) (by rw [gi_ne (by omega), (h6 (k + 1) (by omega)).1]; exact j7)) (fun v hv => ((j12 v hv).tr (h6 v (by omega))).tr (lv v (by omega)))
            refine quiet n7 (fun q => absurd q n11) h19 ?_
            by_cases hb : tB T1 (k + 1) = true
            · obtain ⟨g, z1, z2, z3⟩ := vt hb
              exact last T1 _ g hI1 hl1 hv1 hRm (opm T1 hopk sl_rf) hfm (by rw [(hcm2 (k + 1)).1]; exact h19) (by rw [(hcm2 (k + 1)).2.1]; exact z1) z3 z2 hb (fun v _ => hcm v) (by rw [hXm]; unfold skpP; rw [if_pos hb])
            · have hbf : tB T1 (k + 1) = false := by
                cases hq : tB T1 (k + 1) with
                | true => exact absurd hq hb
                | false => rfl
              have loop : ∀ (mm n : Nat) (T2 : sT) (G3 : gS), 401 ≤ tA T2 + mm → n ≤ tA T2 → IT L (L.length - k) T2 → lP T2 → ¬ tOv T2 → RM M j R L P T2 G3 → opn M L T2 G3 k → rF M G G3 → gi G3 (M + 19) (k + 1) = 0 → gi G3 (M + 20) (k + 1) = nI n → tB T2 (k + 1) = true → (∀ v, k + 1 < v → lvC M v G1 G3) → askP R L P (k + 1) T = (if (skL (nu A) (askP R L P k) mm n T2).2 = true then askP R L P k (skL (nu A) (askP R L P k) mm n T2).1 else ((skL (nu A) (askP R L P k) mm n T2).1, none)) → gW p l e (grm 7 0 0) s m args below meth c D base 5 (MQ below (gQ D base post) args s 0 0 fun q => base ≤ q) 0 0 9 [some (.ref M), some (.int (nI j)), some (.int (nI k)), some (.int 1), none] [] G3 := by
                intro mm
                induction mm with
                | zero => intro n T2 G3 hn _ j1; have := j1.2.2.1; omega
                | succ mm ihm =>
                  intro n T2 G3 hn hnA j1 j2 j3 j4 j5 j6 j7 j8 j11 j12 j13
                  by_cases hlt : lN n < nu A
                  · have ha4 := j1.2.2.1
                    refine child T2 G3 j1 j2 j3 j4 j5 j6 (fun hn _ => by rw [j13]; unfold skL; rw [if_pos hlt, hn]; rfl) (fun G4 h1 h2 h3 h4 h5 h6 => ?_)
                    have g1 := gd T2 j1
                    have g11 : IT L (L.length - k) (askP R L P k T2).1 := g1.1.1
                    cases ho : (askP R L P k T2).2 with
                    | none =>
                      rw [ho] at h4
                      exact hN1 _ G4 n11 g11 h1 h2 h3 h4 (fun v hv => (j12 v hv).tr (h6 v (by omega))) (by rw [j13]; unfold skL; rw [if_pos hlt, ho]; rfl)
                    | some ee =>
                      rw [ho] at h4
                      obtain ⟨d1, d2, d3, d4⟩ := g1.1.2.2 ee ho
                      have hta := g1.2 ee ho
                      have hlp := (kpf T2).2 j2
                      have hll := hlp.l g11
                      have hop2 := h5 ee ho
                      have hsk : skL (nu A) (askP R L P k) (mm + 1) n T2 = skL (nu A) (askP R L P k) mm (n + 1) (askP R L P k T2).1 := by
                        conv => lhs; unfold skL
                        rw [if_pos hlt, ho]
                      rw [hsk] at j13
                      have hbb : tB (askP R L P k T2).1 (k + 1) = true := by rw [((kpf T2).1 (k + 1) (by omega)).2.1]; exact j11
                      generalize (askP R L P k T2).1 = T3 at *
                      have h20 : gi G4 (M + 20) (k + 1) = nI n := by rw [(h6 (k + 1) (by omega)).2.1]; exact j8
                      refine hS1 T3 G4 ee g11 h2 h3 d1 (fun K k1 k0 => Or.inr (Or.inr (Or.inr (Or.inl ⟨h4, k8, n, h20, by omega, fun q => absurd q (lN_ds hlt (by omega)), fun _ => k0 _ ?_⟩))))
                      have lv : ∀ v, v ≠ k + 1 → lvC M v G4 (si G4 (M + 20) (k + 1) (nI (n + 1))) := fun v hv => lvC.rf.v (by omega) hv
                      exact ihm (n + 1) T3 _ (by omega) (by omega) g11 hlp h2 (h3.v (by omega) (by omega) (fun _ => by omega)) (hop2.sl hll sl_rf (fun v _ hv => lv v (by omega))) (h1.i (by omega) (by omega)) (by rw [gi_ne (by omega), (h6 (k + 1) (by omega)).1]; exact j7) gi_eq hbb (fun v hv => ((j12 v hv).tr (h6 v (by omega))).tr (lv v (by omega))) j13
                  · exact last T2 G3 n j1 j2 j3 j4 j5 j6 j7 j8 hnA (Int64.not_lt.mp hlt) j11 j12 (by rw [j13]; unfold skL; rw [if_neg hlt]; rfl)
              refine loop 401 0 (sB T1 (k + 1)) _ (by omega) (Nat.zero_le _) (IT_B hI1) (lP_B hl1) (nov_B hv1) hRm.B (opm (sB T1 (k + 1)) hopk sl_B) hfm (by rw [(hcm2 (k + 1)).1]; exact h19) (by rw [(hcm2 (k + 1)).2.1]; exact vf hbf) (by rw [tB_sB, va_s]) (fun v _ => hcm v) (by rw [hXm]; unfold skpP; rw [if_neg hb])
          by_cases k9 : kd A = 9
          · have n11 : kd A ≠ 11 := fun q => by rw [q] at k9; revert k9; decide
            have n10 : kd A ≠ 10 := fun q => by rw [q] at k9; revert k9; decide
            obtain ⟨h19, hopk⟩ := rest n11
            have hXm : askP R L P (k + 1) T = celP (whlP R L (nu A) (askP R L P k) T1) := by rw [hX]; unfold actP; rw [if_neg k3, if_neg k6, if_neg k7, if_neg k8, if_pos k9]
            refine quiet k7 (fun q => absurd q n11) h19 ?_
            refine child T1 _ hI1 hl1 hv1 hRm (opm T1 hopk sl_rf) hfm (fun hn _ => by rw [hXm]; unfold whlP; rw [hn]; rfl) (fun G4 h1 h2 h3 h4 h5 h6 => ?_)
            have g1 := gd T1 hI1
            have g11 : IT L (L.length - k) (askP R L P k T1).1 := g1.1.1
            cases ho : (askP R L P k T1).2 with
            | none =>
              rw [ho] at h4
              exact hN1 _ G4 n11 g11 h1 h2 h3 h4 (fun v hv => (hcm v).tr (h6 v (by omega))) (by rw [hXm]; unfold whlP; rw [ho]; rfl)
            | some ee =>
              rw [ho] at h4
              obtain ⟨d1, d2, d3, d4⟩ := g1.1.2.2 ee ho
              have hll := ((kpf T1).2 hl1).l g11
              have hop2 := h5 ee ho
              unfold whlP at hXm
              rw [ho] at hXm
              dsimp only at hXm
              generalize (askP R L P k T1).1 = T3 at *
              have hw := (g11.wk (R := R) d1)
              refine hS1 T3 G4 ee g11 h2 h3 d1 (fun K k1 k0 => Or.inr (Or.inr (Or.inr (Or.inr (Or.inl ⟨h4, k9, fun G5 q1 q2 q3 q4 q5 q6 => ⟨fun hz => k1 _ ?_, fun hz hp => k1 _ ?_, fun hz hp => k1 _ ?_⟩⟩)))))
              · rw [if_pos hz, cel_n] at hXm
                exact finX (wkT R L ee T3, none) G5 hXm (h1.tr q1) (Or.inr hz) hw.1.2.2.2.2.2.2.1 q5
              · rw [if_neg (not_not_intro hz), if_pos hp, cel_s] at hXm
                have lv : ∀ v, v ≠ k + 1 → lvC M v G4 (si (si (si G5 (M + 19) (k + 1) 0) M 32 (nI ee)) M 21 (nI (tC T3 + 1))) := fun v hv => (((q2 v).v (by omega) hv).o (by omega)).o (by omega)
                refine finU 126 (sCl (wkT R L ee T3), some ee) _ (Or.inr rfl) hXm ((((h1.tr q1).i (by omega) (by omega)).f (by decide)).f (by decide)) (nov_cl (nov_wk d2 hz)) (fTst ((q6 hz).v (by omega) (by omega) (by omega)).m) (by rw [gi_kn (by decide), gi_eq]; rfl) (fun _ _ => opS T3 _ G4 _ hop2 hll (sl_wk.tr sl_cl) (fun v _ hv => lv v (by omega)) (lvr_x k7 k8 n10 n11) (by rw [gi_ne (by omega), gi_ne (by omega), gi_eq])) (fun v hv => ((hcm v).tr (h6 v (by omega))).tr (lv v (by omega)))
              · rw [if_neg (not_not_intro hz), if_neg hp, cel_n] at hXm
                have lv : ∀ v, v ≠ k + 1 → lvC M v G4 (si (si (si G5 (M + 19) (k + 1) 1) M 32 (-1)) M 21 (nI (tC T3))) := fun v hv => (((q2 v).v (by omega) hv).o (by omega)).o (by omega)
                exact finU 126 (wkT R L ee T3, none) _ (Or.inr rfl) hXm ((((h1.tr q1).i (by omega) (by omega)).f (by decide)).f (by decide)) (nov_wk d2 hz) (fTs0 ((q6 hz).v (by omega) (by omega) (by omega)).m) (by rw [gi_kn (by decide), gi_eq]; rfl) (fun e he => by cases he) (fun v hv => ((hcm v).tr (h6 v (by omega))).tr (lv v (by omega)))
          by_cases k10 : kd A = 10
          · have n11 : kd A ≠ 11 := fun q => by rw [q] at k10; revert k10; decide
            obtain ⟨h19, hopk⟩ := rest n11
            have hXm : askP R L P (k + 1) T = celP (sumP k (askP R L P k) T1) := by rw [hX]; unfold actP; rw [if_neg k3, if_neg k6, if_neg k7, if_neg k8, if_neg k9, if_pos k10]
            refine quiet k7 (fun q => absurd q n11) h19 ?_
            refine child T1 _ hI1 hl1 hv1 hRm (opm T1 hopk sl_rf) hfm (fun hn _ => by rw [hXm]; unfold sumP; rw [hn]; rfl) (fun G4 h1 h2 h3 h4 h5 h6 => ?_)
            have g1 := gd T1 hI1
            have g11 : IT L (L.length - k) (askP R L P k T1).1 := g1.1.1
            cases ho : (askP R L P k T1).2 with
            | none =>
              rw [ho] at h4
              exact hN1 _ G4 n11 g11 h1 h2 h3 h4 (fun v hv => (hcm v).tr (h6 v (by omega))) (by rw [hXm]; unfold sumP; rw [ho]; rfl)
            | some ee =>
              rw [ho] at h4
              obtain ⟨d1, d2, d3, d4⟩ := g1.1.2.2 ee ho
              have hn4 : tN (askP R L P k T1).1 < 400 := by have q1 := g11.1; have q2 := g11.2.2.1; omega
              have hXs : askP R L P (k + 1) T = (sCl (sQ (sAd (askP R L P k T1).1 (2, 0, k, ee, tQ (askP R L P k T1).1 (k + 1))) (k + 1) (tN (askP R L P k T1).1)), some (tN (askP R L P k T1).1)) := by rw [hXm]; unfold sumP; rw [ho, cel_s]
              have hll := ((kpf T1).2 hl1).l g11
              have hop2 := h5 ee ho
              have hqq : gi G4 (M + 21) (k + 1) = on1 (tQ (askP R L P k T1).1 (k + 1)) := by rw [(h6 (k + 1) (by omega)).2.2.1, (hcm2 (k + 1)).2.2.1, ((kpf T1).1 (k + 1) (by omega)).2.2.1]; exact hlv.2.2.1 k10
              generalize (askP R L P k T1).1 = T2 at *
              refine hS1 T2 G4 ee g11 h2 h3 d1 (fun K k1 k0 => Or.inr (Or.inr (Or.inr (Or.inr (Or.inr (Or.inl ⟨h4, k10, hn4, fun G' hG' => k1 G' ?_⟩))))))
              rw [hqq] at hG'
              subst hG'
              have lv : ∀ v, v ≠ k + 1 → lvC M v G4 (si (si (si (nwE M (tN T2) (nI ee) (on1 (tQ T2 (k + 1))) (nI (10 * j + k)) G4) M 32 (nI (tN T2))) (M + 21) (k + 1) (nI (tN T2))) M 21 (nI (tC T2 + 1))) := fun v hv => (((nw_v lvC.rf).o (by omega)).v (by omega) hv).o (by omega)
              obtain ⟨z1, z2, z3, z4, z5⟩ := nw_c (M := M) (n := tN T2) (f := nI ee) (bf := on1 (tQ T2 (k + 1))) (ac := nI (10 * j + k)) (G := G4)
              refine finU 126 _ _ (Or.inr rfl) hXs ((((nw_r h1).f (by decide)).i (by omega) (by omega)).f (by decide)) (nov_cl (nov_Q (nov_ad h2))) (fSum h3 hn4 (x := (2, 0, k, ee, tQ T2 (k + 1))) ⟨by simp, fun q => absurd q (by simp), fun _ => ⟨z1, z3, z5, hkl⟩, fun q => absurd q (by simp), fun _ => ⟨z4, by rw [hAk]; exact k10⟩, fun _ => z2, fun q => absurd q (by simp)⟩) (by rw [gi_kn (by decide), gi_ne (by omega), gi_eq]; rfl) (fun _ _ => opS T2 _ G4 _ hop2 hll ((sl_ad.tr sl_Q).tr sl_cl) (fun v _ hv => lv v (by omega)) ⟨fun q => absurd q k7, fun q => absurd q k8, fun _ => by rw [gi_ne (by omega), gi_eq, tQ_sCl, tQ_sQ, va_s]; rfl, fun q => absurd q n11⟩ (by rw [gi_ne (by omega), gi_ne (by omega), gi_ne (by omega), nw_i (by omega) (by omega), (h6 (k + 1) (by omega)).1, (hcm2 (k + 1)).1]; exact h19)) (fun v hv => ((hcm v).tr (h6 v (by omega))).tr (lv v (by omega)))
          have k11 : kd A = 11 := by
            obtain ⟨-, z2, z3, -⟩ := hA1.1
            obtain ⟨n, hn, hq⟩ := vp_of (n := 12) z2 (Int32.lt_of_le_of_lt z3 (by decide)) (by decide)
            rw [hq] at k3 k6 k7 k8 k9 k10 ⊢
            rcases (show n = 0 ∨ n = 1 ∨ n = 2 ∨ n = 3 ∨ n = 4 ∨ n = 5 ∨ n = 6 ∨ n = 7 ∨ n = 8 ∨ n = 9 ∨ n = 10 ∨ n = 11 by omega) with rfl | rfl | rfl | rfl | rfl | rfl | rfl | rfl | rfl | rfl | rfl | rfl
            · exact absurd (by decide) k3
            · exact absurd (by decide) k3
            · exact absurd (by decide) k3
            · exact absurd (by decide) k3
            · exact absurd (by decide) k6
            · exact absurd (by decide) k6
            · exact absurd (by decide) k6
            · exact absurd rfl k7
            · exact absurd rfl k8
            · exact absurd rfl k9
            · exact absurd rfl k10
            · rfl
          obtain ⟨v22, v23, v24⟩ := hlv.2.2.2 k11
          have hXm : askP R L P (k + 1) T = celP (trnP (k + 1) (askP R L P k) T1) := by rw [hX]; unfold actP; rw [if_neg k3, if_neg k6, if_neg k7, if_neg k8, if_neg k9, if_neg k10]
          -- one is given out
          have opP : ∀ (X1 : sT) (G' : gS), tB X1 (k + 1) = true → gi G' (M + 22) (k + 1) = 1 → gi G' (M + 23) (k + 1) = nI (tL X1 (k + 1)).length → (∀ t e, (tL X1 (k + 1))[t]? = some e → gi G' (M + 24) (500 * (k + 1) + ((tL X1 (k + 1)).length - 1 - t)) = nI e) → opn M L X1 G' (k + 1) := by
            intro X1 G' z1 z2 z3 z4
            refine ⟨?_, Or.inl ⟨by rw [hAk]; exact k11, z1⟩⟩
            rw [hAk]
            exact ⟨fun q => absurd q k7, fun q => absurd q k8, fun q => absurd q k10, fun _ => ⟨by rw [z1]; exact z2, z3, z4⟩⟩
          have tailE : ∀ (l : List Nat) (e1 : Nat) (r : List Nat) (H : Nat → Int32), l = e1 :: r → (∀ t e, l[t]? = some e → H (500 * (k + 1) + (l.length - 1 - t)) = nI e) → ∀ t e, r[t]? = some e → H (500 * (k + 1) + (r.length - 1 - t)) = nI e := by
            intro l0 e1 r H hl hH t e he
            subst hl
            have := hH (t + 1) e (by simpa using he)
            rw [List.length_cons] at this
            rw [← this]
            congr 2
            omega
          by_cases hb : tB T1 (k + 1) = true
          · have hXp : askP R L P (k + 1) T = celP (popP (k + 1) T1) := by rw [hXm]; unfold trnP; rw [if_pos hb]
            intro K k1 k0
            refine ⟨M, j, k, R, L, P, rfl, hS2, hj, hB, hkl, Or.inl ?_⟩
            rw [hAk]
            refine ⟨k11, by rw [v22, hb]; rfl, tL T1 (k + 1), tC T1, hll1 _, v23, v24, hR1.2.1.2.1, fun hl => k1 _ ?_, fun e1 r hl G' hG' => k1 _ ?_⟩
            · rw [pop_n hv1 hl, cel_n] at hXp
              exact finU 91 (T1, none) _ (Or.inl rfl) hXp (hfm.f (by decide)) hv1 hRm.m gi_eq (fun e he => by cases he) (fun v _ => (hcm v).o (by omega))
            · rw [pop_s hv1 hl, cel_s] at hXp
              have ht := tailE _ e1 r (fun z => gi G2 (M + 24) z) hl v24
              have lv : ∀ v, v ≠ k + 1 → lvC M v G1 G' := by
                intro v hv
                rw [hG']
                exact ((((hcm v).o (by omega)).v (by omega) hv).o (by omega)).o (by omega)
              subst hG'
              refine finU 91 (sCl (sPop T1 (k + 1) r), some e1) _ (Or.inl rfl) hXp ((((hfm.f (by decide)).i (by omega) (by omega)).f (by decide)).f (by decide)) (nov_cl (nov_O hv1)) (fPop ((hRm.m).v (by omega) (by omega) (by omega))) (by rw [gi_kn (by decide), gi_eq]; rfl) (fun _ _ => opP _ _ hb ?_ ?_ ?_) (fun v hv => lv v (by omega))
              · rw [gi_ne (by omega), gi_ne (by omega), gi_ne (by omega), gi_ne (by omega), gi_ne (by omega), v22, hb]; rfl
              · rw [tL_sCl, tL_sPop, va_s, gi_ne (by omega), gi_ne (by omega), gi_eq]
              · intro t e he
                rw [tL_sCl, tL_sPop, va_s] at he ⊢
                rw [gi_ne (by omega), gi_ne (by omega), gi_ne (by omega), gi_ne (by omega), gi_ne (by omega)]
                exact ht t e he
          · have hbf : tB T1 (k + 1) = false := by
              cases hq : tB T1 (k + 1) with
              | true => exact absurd hq hb
              | false => rfl
            obtain ⟨h19, hopk⟩ : gi G2 (M + 19) (k + 1) = 0 ∧ opn M L T1 G2 k := by
              rcases hop with q | q
              · exact absurd q.2 hb
              · exact q
            have hXp : askP R L P (k + 1) T = celP (popP (k + 1) (pilP (k + 1) (askP R L P k) 401 (sB T1 (k + 1)))) := by rw [hXm]; unfold trnP; rw [if_neg hb]
            have loop : ∀ (mm : Nat) (T2 : sT) (G3 : gS), 401 ≤ tA T2 + mm → IT L (L.length - k) T2 → lP T2 → ¬ tOv T2 → RM M j R L P T2 G3 → opn M L T2 G3 k → rF M G G3 → gi G3 (M + 19) (k + 1) = 0 → gi G3 (M + 23) (k + 1) = nI (tL T2 (k + 1)).length → (∀ t e, (tL T2 (k + 1))[t]? = some e → gi G3 (M + 24) (500 * (k + 1) + ((tL T2 (k + 1)).length - 1 - t)) = nI e) → tB T2 (k + 1) = true → (∀ v, k + 1 < v → lvC M v G1 G3) → askP R L P (k + 1) T = celP (popP (k + 1) (pilP (k + 1) (askP R L P k) mm T2)) → gW p l e (grm 7 0 0) s m args below meth c D base 5 (MQ below (gQ D base post) args s 0 0 fun q => base ≤ q) 0 0 9 [some (.ref M), some (.int (nI j)), some (.int (nI k)), some (.int 1), none] [] G3 := by
              intro mm
              induction mm with
              | zero => intro T2 G3 hn j1; have := j1.2.2.1; omega
              | succ mm ihm =>
                intro T2 G3 hn j1 j2 j3 j4 j5 j6 j7 j8 j9 j10 j11 j12
                refine child T2 G3 j1 j2 j3 j4 j5 j6 (fun hn hov => by rw [j12]; unfold pilP; rw [hn]; dsimp only; rw [pop_o hov, cel_n]) (fun G4 h1 h2 h3 h4 h5 h6 => ?_)
                have g1 := gd T2 j1
                have g11 : IT L (L.length - k) (askP R L P k T2).1 := g1.1.1
                have hlp := (kpf T2).2 j2
                have hll := hlp.l g11
                have hfr := (kpf T2).1 (k + 1) (by omega)
                have c6 := h6 (k + 1) (by omega)
                have h19' : gi G4 (M + 19) (k + 1) = 0 := by rw [c6.1]; exact j7
                have h23' : gi G4 (M + 23) (k + 1) = nI (tL (askP R L P k T2).1 (k + 1)).length := by rw [c6.2.2.2.2.1, hfr.2.2.2]; exact j8
                have h24' : ∀ t e, (tL (askP R L P k T2).1 (k + 1))[t]? = some e → gi G4 (M + 24) (500 * (k + 1) + ((tL (askP R L P k T2).1 (k + 1)).length - 1 - t)) = nI e := by
                  intro t e he
                  have hl4 := hll (k + 1)
                  rw [c6.2.2.2.2.2 _ (by omega)]
                  rw [hfr.2.2.2] at he ⊢
                  exact j9 t e he
                have hbb : tB (askP R L P k T2).1 (k + 1) = true := by rw [hfr.2.1]; exact j10
                cases ho : (askP R L P k T2).2 with
                | none =>
                  rw [ho] at h4
                  have hXq : askP R L P (k + 1) T = celP (popP (k + 1) (askP R L P k T2).1) := by rw [j12]; unfold pilP; rw [ho]
                  generalize (askP R L P k T2).1 = T3 at *
                  refine he k T3 G4 hkl h3 h2 g11.2.2.2.2.2.2.1 (fun K k1 k0 => ⟨M, j, k, L.length - k, 0, R, L, P, T3, rfl, h3, hj, hI, hB, hkl, g11, (tOv_n h2).2, Or.inr (Or.inl ?_)⟩)
                  rw [hAk]
                  refine ⟨h4, k11, tL T3 (k + 1), hll _, h23', h24', fun hl => k1 _ ?_, fun e1 r hl G' hG' => k1 _ ?_⟩
                  · rw [pop_n h2 hl, cel_n] at hXq
                    exact finU 126 (T3, none) _ (Or.inr rfl) hXq (((h1.i (by omega) (by omega)).i (by omega) (by omega)).f (by decide)) h2 (((h3.v (by omega) (by omega) (by omega)).v (by omega) (by omega) (by omega)).m) gi_eq (fun e he => by cases he) (fun v hv => ((((j11 v hv).tr (h6 v (by omega))).v (by omega) (by omega)).v (by omega) (by omega)).o (by omega))
                  · rw [pop_s h2 hl, cel_s] at hXq
                    have ht := tailE _ e1 r (fun z => gi G4 (M + 24) z) hl h24'
                    have lv : ∀ v, k + 1 < v → lvC M v G1 G' := by
                      intro v hv
                      rw [hG']
                      exact (((((((j11 v hv).tr (h6 v (by omega))).v (by omega) (by omega)).v (by omega) (by omega)).o (by omega)).v (by omega) (by omega)).o (by omega)).o (by omega)
                    subst hG'
                    refine finU 126 (sCl (sPop T3 (k + 1) r), some e1) _ (Or.inr rfl) hXq ((((((h1.i (by omega) (by omega)).i (by omega) (by omega)).f (by decide)).i (by omega) (by omega)).f (by decide)).f (by decide)) (nov_cl (nov_O h2)) (fPop ((((h3.v (by omega) (by omega) (by omega)).v (by omega) (by omega) (by omega)).m).v (by omega) (by omega) (by omega))) (by rw [gi_kn (by decide), gi_eq]; rfl) (fun _ _ => opP _ _ hbb ?_ ?_ ?_) lv
                    · rw [gi_ne (by omega), gi_ne (by omega), gi_ne (by omega), gi_ne (by omega), gi_eq]
                    · rw [tL_sCl, tL_sPop, va_s, gi_ne (by omega), gi_ne (by omega), gi_eq]
                    · intro t e he
                      rw [tL_sCl, tL_sPop, va_s] at he ⊢
                      rw [gi_ne (by omega), gi_ne (by omega), gi_ne (by omega), gi_ne (by omega), gi_ne (by omega), gi_ne (by omega)]
                      exact ht t e he
                | some ee =>
                  rw [ho] at h4
                  obtain ⟨d1, d2, d3, d4⟩ := g1.1.2.2 ee ho
                  have hta := g1.2 ee ho
                  have hop2 := h5 ee ho
                  have hpil : pilP (k + 1) (askP R L P k) (mm + 1) T2 = pilP (k + 1) (askP R L P k) mm (sPush (askP R L P k T2).1 (k + 1) ee) := by
                    conv => lhs; unfold pilP
                    rw [ho]
                  rw [hpil] at j12
                  generalize (askP R L P k T2).1 = T3 at *
                  have hl4 := hll (k + 1)
                  refine hS1 T3 G4 ee g11 h2 h3 d1 (fun K k1 k0 => Or.inr (Or.inr (Or.inr (Or.inr (Or.inr (Or.inr ⟨h4, k11, (tL T3 (k + 1)).length, by omega, h23', k0 _ ?_⟩))))))
                  have lv : ∀ v, v ≠ k + 1 → lvC M v G4 (si (si (si G4 M 21 (nI (tC T3 + 1))) (M + 24) (500 * (k + 1) + (tL T3 (k + 1)).length) (nI ee)) (M + 23) (k + 1) (nI ((tL T3 (k + 1)).length + 1))) := by
                    intro v hv
                    refine (lvC.tr (lvC.rf.o (q := M) (k := 21) (x := nI (tC T3 + 1)) (by omega)) ⟨gi_ne (by omega), gi_ne (by omega), gi_ne (by omega), gi_ne (by omega), gi_ne (by omega), fun z hz => gi_kn (by omega)⟩).v (by omega) hv
                  refine ihm (sPush T3 (k + 1) ee) _ (by rw [tA_sPush]; omega) (g11.P d1 d4) (lP_P hlp) (nov_P h2) ((h3.push.v (by omega) (by omega) (by omega)).v (by omega) (by omega) (by omega)) (hop2.sl hll sl_P (fun v _ hv => lv v (by omega))) (((h1.f (by decide)).i (by omega) (by omega)).i (by omega) (by omega)) (by rw [gi_ne (by omega), gi_ne (by omega), gi_ne (by omega)]; exact h19') (by rw [gi_eq, tL_sPush, va_s]; rfl) (fun t e he => ?_) hbb (fun v hv => ((j11 v hv).tr (h6 v (by omega))).tr (lv v (by omega))) j12
                  rw [tL_sPush, va_s] at he ⊢
                  rw [List.length_cons]
                  cases t with
                  | zero =>
                    simp at he
                    subst he
                    rw [gi_ne (by omega), Nat.add_sub_cancel, Nat.sub_zero, gi_eq]
                  | succ t =>
                    simp at he
                    have htl : t < (tL T3 (k + 1)).length := (List.getElem?_eq_some_iff.mp he).1
                    have := h24' t e he
                    rw [gi_ne (by omega), gi_kn (by omega), gi_ne (by omega), ← this]
                    congr 2
                    omega
            refine quiet k7 (fun _ => by rw [v22, hbf]; rfl) h19 ?_
            exact loop 401 (sB T1 (k + 1)) _ (by omega) (IT_B hI1) (lP_B hl1) (nov_B hv1) hRm.B (opm (sB T1 (k + 1)) hopk sl_B) hfm (by rw [(hcm2 (k + 1)).1]; exact h19) (by rw [(hcm2 (k + 1)).2.2.2.2.1]; exact v23) (fun t e he => by
              have hl4 := hll1 (k + 1)
              have he' : (tL T1 (k + 1))[t]? = some e := he
              show gi (si G2 M 32 (-1)) (M + 24) (500 * (k + 1) + ((tL T1 (k + 1)).length - 1 - t)) = nI e
              rw [gi_ne (by omega)]; exact v24 t e he') (by rw [tB_sB, va_s]) (fun v _ => hcm v) hXp
    refine gw1_ok (cuts := [9]) O 100 ?_
    have e8 : gi G (M + 8) j = nI L.length := hR0.1.2.2.2.2.2.2.1
    simp only [gwp_s dX7_ask_0, gw1_s dX7_ask_0, gwp_s dX7_ask_1, gw1_s dX7_ask_1, gwp_s dX7_ask_4, gw1_s dX7_ask_4, gwp_s dX7_ask_5, gw1_s dX7_ask_5, gwp_s dX7_ask_6, gw1_s dX7_ask_6, gwp_s dX7_ask_7, gw1_s dX7_ask_7, gwp_s dX7_ask_8, gw1_s dX7_ask_8, gwp_s dX7_ask_9, gw1_s dX7_ask_9, gwp_s dX7_ask_10, gw1_s dX7_ask_10, gwp_s dX7_ask_13, gw1_s dX7_ask_13, gwp_s dX7_ask_16, gw1_s dX7_ask_16, gwp_s dX7_ask_18, gw1_s dX7_ask_18, gwp_s dX7_ask_19, gw1_s dX7_ask_19, gwp_s dX7_ask_20, gw1_s dX7_ask_20, gwp_s dX7_ask_21, gw1_s dX7_ask_21, gwp_s dX7_ask_22, gw1_s dX7_ask_22, gwp_s dX7_ask_23, gw1_s dX7_ask_23, gwp_s dX7_ask_24, gw1_s dX7_ask_24, gwp_s dX7_ask_26, gw1_s dX7_ask_26, gwp_s dX7_ask_27, gw1_s dX7_ask_27, gwp_s dX7_ask_30, gw1_s dX7_ask_30, gwp_s dX7_ask_31, gw1_s dX7_ask_31, gwp_s dX7_ask_34, gw1_s dX7_ask_34, gwp_s dX7_ask_37, gw1_s dX7_ask_37, gwp_s dX7_ask_40, gw1_s dX7_ask_40, gwp_s dX7_ask_41, gw1_s dX7_ask_41, gwp_s dX7_ask_42, gw1_s dX7_ask_42, gwp_s dX7_ask_45, gw1_s dX7_ask_45, gwp_s dX7_ask_46, gw1_s dX7_ask_46, gwp_s dX7_ask_47, gw1_s dX7_ask_47, gwp_s dX7_ask_48, gw1_s dX7_ask_48, gwp_s dX7_ask_51, gw1_s dX7_ask_51, gwp_s dX7_ask_52, gw1_s dX7_ask_52, gwp_s dX7_ask_53, gw1_s dX7_ask_53, gwp_s dX7_ask_56, gw1_s dX7_ask_56, gwp_s dX7_ask_57, gw1_s dX7_ask_57, gwp_s dX7_ask_60, gw1_s dX7_ask_60, gwp_s dX7_ask_61, gw1_s dX7_ask_61, gwp_s dX7_ask_62, gw1_s dX7_ask_62, gwp_s dX7_ask_65, gw1_s dX7_ask_65, gwp_s dX7_ask_66, gw1_s dX7_ask_66, gwp_s dX7_ask_67, gw1_s dX7_ask_67, gwp_s dX7_ask_70, gw1_s dX7_ask_70, gwp_s dX7_ask_71, gw1_s dX7_ask_71, gwp_s dX7_ask_72, gw1_s dX7_ask_72, gwp_s dX7_ask_74, gw1_s dX7_ask_74, gwp_s dX7_ask_77, gw1_s dX7_ask_77, gwp_s dX7_ask_80, gw1_s dX7_ask_80, gwp_s dX7_ask_81, gw1_s dX7_ask_81, gwp_s dX7_ask_82, gw1_s dX7_ask_82, gwp_s dX7_ask_85, gw1_s dX7_ask_85, gwp_s dX7_ask_88, gw1_s dX7_ask_88, gwp_s dX7_ask_91, gw1_s dX7_ask_91, gwp_s dX7_ask_92, gw1_s dX7_ask_92, gwp_s dX7_ask_93, gw1_s dX7_ask_93, gwp_s dX7_ask_96, gw1_s dX7_ask_96, gwp_s dX7_ask_97, gw1_s dX7_ask_97, gwp_s dX7_ask_98, gw1_s dX7_ask_98, gwp_s dX7_ask_101, gw1_s dX7_ask_101, gwp_s dX7_ask_102, gw1_s dX7_ask_102, gwp_s dX7_ask_105, gw1_s dX7_ask_105, gwp_s dX7_ask_108, gw1_s dX7_ask_108, gwp_s dX7_ask_109, gw1_s dX7_ask_109, gwp_s dX7_ask_110, gw1_s dX7_ask_110, gwp_s dX7_ask_112, gw1_s dX7_ask_112, gwp_s dX7_ask_115, gw1_s dX7_ask_115, gwp_s dX7_ask_118, gw1_s dX7_ask_118, gwp_s dX7_ask_121, gw1_s dX7_ask_121, gwp_s dX7_ask_122, gw1_s dX7_ask_122, gwp_s dX7_ask_123, gw1_s dX7_ask_123, gwp_s dX7_ask_126, gw1_s dX7_ask_126, gwp_s dX7_ask_127, gw1_s dX7_ask_127, gwp_s dX7_ask_128, gw1_s dX7_ask_128, gwp_s dX7_ask_131, gw1_s dX7_ask_131, gwp_s dX7_ask_132, gw1_s dX7_ask_132, gwp_s dX7_ask_133, gw1_s dX7_ask_133, gwp_s dX7_ask_136, gw1_s dX7_ask_136, gwp_s dX7_ask_137, gw1_s dX7_ask_137, gwp_s dX7_ask_140, gw1_s dX7_ask_140, gwp_s dX7_ask_143, gw1_s dX7_ask_143, cty_6_22, cty_6_25, cty_6_8, fl_7_145, fl_7_180, fl_7_32, gtg_eq 105 (-96) 9 (by decide), gtg_eq 115 11 126 (by decide), gtg_eq 123 (-114) 9 (by decide), gtg_eq 13 130 143 (by decide), gtg_eq 133 4 137 (by decide), gtg_eq 140 (-131) 9 (by decide), gtg_eq 27 81 108 (by decide), gtg_eq 37 9 46 (by decide), gtg_eq 57 13 70 (by decide), gtg_eq 67 24 91 (by decide), gtg_eq 77 8 85 (by decide), gtg_eq 82 9 91 (by decide), gtg_eq 88 (-79) 9 (by decide), gtg_eq 98 4 102 (by decide), gx_aload_n_0, gx_bipush_10, gx_dup, gx_getfield, gx_goto, gx_iadd, gx_iaload, gx_iconst_0, gx_iconst_1, gx_ifCond_eq, gx_ifCond_ne, gx_if_icmp_ne, gx_iinc_1, gx_iinc_m1, gx_iload, gx_iload_n_1, gx_iload_n_2, gx_iload_n_3, gx_imul, gx_invokevirtual, gx_istore, gx_istore_n_2, gx_istore_n_3, gx_isub, gx_putfield, gx_return_, gx_sipush_400, gn_self, g1i_c, g2i_c, g1l_c, g2l_c, gil_c, g1r_c, g1q_c, g1q_n, goq_c, gvr_c, gir_c, giir_c, glir_c, gqir_c, gqir_n, gdup_i, gdup_r, gdup2_l, gdup2_ir, gdup2_ii, goi_c, gol_c, gor_c, gor_n, gpv_i, gpv_z, gpv_l, gpv_o, gpv_a, fval_i, fval_z, fval_l, fval_o, fval_a, va_rf_s, va_rf_n, lnw_i, lnw_r, lnw_n, lnw_0, lnw_l, gcat_0, gcat_i, gcat_l, gcat_r, gcat_n, grcv_0, grcv_s, gRET_i, gRET_z, gRET_l, gRET_v, lg_0, lg_s, ls1_0, ls1_1, ls1_s, ls2_0, ls2_1, ls2_s, lpad_0, lpad_n, lpad_c, lent_0, lent_i, lent_l, lent_r, lent_n, gsh_si, gsh_sl, gsh_sr, gr_si, gr_sl, gi_sl, gi_sr, gl_si, gl_sr, List.contains_nil, List.contains_cons, Bool.false_eq_true, if_false, if_true, true_and, and_true, true_or, or_true, Nat.le_refl, Nat.zero_le, List.take_succ_cons, List.take_zero, List.drop_succ_cons, List.drop_zero, List.reverse_cons, List.reverse_nil, List.nil_append, List.cons_append, List.append_nil, List.length_cons, List.length_nil, Option.toList_some, Option.toList_none, Nat.add_zero, Nat.zero_add, Nat.reduceAdd, Nat.reduceLT, Nat.reduceLeDiff, Nat.reduceEqDiff, Nat.reduceBEq, Nat.reduceMul, Nat.reduceSub, ↓reduceIte, reduceCtorEq, Int32.reduceLE, Int32.reduceLT, Int32.reduceAdd, Int32.reduceSub, Int32.reduceMul, Int32.reduceToNatClampNeg, Int64.reduceLT, Int64.reduceLE, Bool.or_false, Bool.false_or, Bool.or_true, Bool.true_or, and_false, false_and, or_false, false_or, not_true_eq_false, not_false_eq_true, gcall, glup_c, gbr_T, gbr_F, List.zip_cons_cons, List.zip_nil_right, List.zip_nil_left, List.all_cons, List.all_nil, Bool.and_true, Int.reduceLT, decide_true, decide_eq_true_eq, cmp_eq, cmp_le, cmp_lt, cmp_ge, cmp_gt, b2_e0, b2_e1, bz_e0, bz_e1, gbr_N, ne01, ne10, nem0, nem1, vp_in0, m1lt0, m1ge0, m0, m8, ms8, e8, nI_cl (show j < 2147483648 by omega), vp_T hj (by decide : 4 < 2147483648)]
    refine (AK L.length (Nat.le_refl _) T0' G (by rw [Nat.sub_self]; exact hIT0) hlP0 hov0 hR0 hop0 rF.rf (fun G' h1 h2 h3 => hE0 G' h1 h2 h3) (fun G' h1 h2 h3 h4 h5 _ => ⟨fun _ => hA0 G' h1 h2 h3 h4 h5, fun q => absurd rfl q⟩)).le (by simp [lle])
