/-- the class's mean: it returns, or it throws -/
def mx_XC (D : gD) (base : Nat) (G : gS) (P : Prop) : String → State → State → Prop := fun E st t => E = mxA ∧ P ∧ (∃ n, gH D base (gmore n G) t.heap) ∧ va_F (fun q : Nat => base ≤ q) st t
set_option maxRecDepth 100000 in
set_option maxHeartbeats 4000000 in
theorem mx_X6 {l : Launch} (hlt : l.stackTraces = false) (D : gD) (base : Nat) (X : Nat) (S : sS) (G : gS) (hW : WC X S G) (hb : S.2.2.2.2.2.2.1.1 ≤ 1000000) (hc : S.2.2.2.2.2.2.1.2.2.2 ≤ 800000000) :
    vx_Met l yX6_mean (.code yX6_mean cX6_mean 1 (some .int) :: gT) (grm 6 1 6) (va_Pc [.ref X] (fun U => gH D base G U.heap ∧ gKt D U ∧ mx_E base U)) (gQ D base (fun v G' => S.2.2.2.2.2.2.1.1 ≠ S.2.2.2.2.2.2.1.2.1 + S.2.2.2.2.2.2.1.2.2.1 ∧ v = some (.int (qMean S)) ∧ G' = G)) (mx_XC D base G (S.2.2.2.2.2.2.1.1 = S.2.2.2.2.2.2.1.2.1 + S.2.2.2.2.2.2.1.2.2.1)) 1 6 (fun q : Nat => base ≤ q) := by
  refine vx_ofW (cc := cX6_mean) (maxL := 1) (ret := some .int) (by decide) rfl ?_
  intro p e s m args below meth c s₁ B hml htab hv
  obtain ⟨rfl, hH, hK, hE⟩ := hv
  have hts : ∀ w ∈ gT, w.before [Value.ref X].toArray s = true := fun w hw => atoms_spec (ws := .code yX6_mean cX6_mean 1 (some .int) :: gT) B.pre w (List.mem_cons_of_mem _ hw)
  have hown : s.vm.findClass RX6 = some m.cls := findClass_of_methodNamed B.named
  have hB : gB p s m [Value.ref X].toArray meth c cX6_mean 1 6 false D base := ⟨B.exec, B.bytes, hml, hown, hts, B.notSynchronized, hK, by rw [hH.1]; exact hH.2.1, fun h => by cases h⟩
  obtain ⟨⟨t1, t2, t3, t4, t5, t6, t7, t8, t9, t10⟩, w2, w3, w4, w5, w6⟩ := id hW
  obtain ⟨b1, b2, b3, b4, b5, b6, b7⟩ := w5
  have e1 : (nI (S.2.2.2.2.2.2.1.1 - S.2.2.2.2.2.2.1.2.1 - S.2.2.2.2.2.2.1.2.2.1) = 0) = (S.2.2.2.2.2.2.1.1 = S.2.2.2.2.2.2.1.2.1 + S.2.2.2.2.2.2.1.2.2.1) := by
    have h1 : (nI (S.2.2.2.2.2.2.1.1 - S.2.2.2.2.2.2.1.2.1 - S.2.2.2.2.2.2.1.2.2.1) = nI 0) = (S.2.2.2.2.2.2.1.1 - S.2.2.2.2.2.2.1.2.1 - S.2.2.2.2.2.2.1.2.2.1 = 0) := nI_eq_e (by omega) (by omega)
    refine Eq.trans h1 (propext ⟨fun q => by omega, fun q => by omega⟩)
  have O : gO p l e (grm 6 1 6) s m [Value.ref X].toArray below meth c D base 1 (vx_MQ below (gQ D base (fun v G' => S.2.2.2.2.2.2.1.1 ≠ S.2.2.2.2.2.2.1.2.1 + S.2.2.2.2.2.2.1.2.2.1 ∧ v = some (.int (qMean S)) ∧ G' = G)) (mx_XC D base G (S.2.2.2.2.2.2.1.1 = S.2.2.2.2.2.2.1.2.1 + S.2.2.2.2.2.2.1.2.2.1)) [Value.ref X].toArray s 1 6 (fun q : Nat => base ≤ q)) cX6_mean 6 false [] (gRET (some .int) 1 6 (fun v G' => S.2.2.2.2.2.2.1.1 ≠ S.2.2.2.2.2.2.1.2.1 + S.2.2.2.2.2.2.1.2.2.1 ∧ v = some (.int (qMean S)) ∧ G' = G)) 1 6 :=
    ⟨hB, ⟨by decide, by decide⟩, rfl, rfl, fun cs ss pc lv st G1 hd h H locs ls h1 h2 h3 => vx_ret (gR1_ok hB B.returns cs ss pc lv st G1 hd h H locs ls h1 h2 h3), fun cs ss pc lv st G1 hd h H locs ls h1 h2 h3 => vx_ret (gR2_ok hB B.returns cs ss pc lv st G1 hd h H locs ls h1 h2 h3), fun cs ss pc lv st G1 hd h H locs ls h1 h2 h3 => vx_ret (gR0_ok hB B.returns cs ss pc lv st G1 hd h H locs ls h1 h2 h3), fun _ h => absurd h List.not_mem_nil⟩
  have hbody : gW p l e (grm 6 1 6) s m [Value.ref X].toArray below meth c D base 1 (vx_MQ below (gQ D base (fun v G' => S.2.2.2.2.2.2.1.1 ≠ S.2.2.2.2.2.2.1.2.1 + S.2.2.2.2.2.2.1.2.2.1 ∧ v = some (.int (qMean S)) ∧ G' = G)) (mx_XC D base G (S.2.2.2.2.2.2.1.1 = S.2.2.2.2.2.2.1.2.1 + S.2.2.2.2.2.2.1.2.2.1)) [Value.ref X].toArray s 1 6 (fun q : Nat => base ≤ q)) 0 0 0 (lpad 1 (lent [.ref X])) [] G := by
    refine gw1_ok (cuts := [7]) O 100 ?_
    simp only [gwp_s dX6_mean_0, gw1_s dX6_mean_0, gwp_s dX6_mean_1, gwp_s dX6_mean_4, gwp_s dX6_mean_7, gwp_s dX6_mean_17, gwp_s dX6_mean_18, gwp_s dX6_mean_21, gwp_s dX6_mean_22, gwp_s dX6_mean_25, gwp_s dX6_mean_26, cty_5_8, cty_5_9, fl_6_150, fl_6_160, gtg_eq 4 13 17 (by decide), gx_aload_n_0, gx_getfield, gx_idiv, gx_ifCond_ne, gx_ireturn, gn_self, g1i_c, g2i_c, g1l_c, g2l_c, gil_c, g1r_c, g1q_c, g1q_n, goq_c, gvr_c, gir_c, giir_c, glir_c, gqir_c, gqir_n, gdup_i, gdup_r, gdup2_l, gdup2_ir, gdup2_ii, goi_c, gol_c, gor_c, gor_n, gpv_i, gpv_z, gpv_l, gpv_o, gpv_a, fval_i, fval_z, fval_l, fval_o, fval_a, va_rf_s, va_rf_n, lnw_i, lnw_r, lnw_n, lnw_0, lnw_l, gcat_0, gcat_i, gcat_l, gcat_r, gcat_n, grcv_0, grcv_s, gRET_i, gRET_z, gRET_l, gRET_v, lg_0, lg_s, ls1_0, ls1_1, ls1_s, ls2_0, ls2_1, ls2_s, lpad_0, lpad_n, lpad_c, lent_0, lent_i, lent_l, lent_r, lent_n, gsh_si, gsh_sl, gsh_sr, gr_si, gr_sl, gi_sl, gi_sr, gl_si, gl_sr, List.contains_nil, List.contains_cons, Bool.false_eq_true, if_false, if_true, true_and, and_true, true_or, or_true, Nat.le_refl, Nat.zero_le, List.take_succ_cons, List.take_zero, List.drop_succ_cons, List.drop_zero, List.reverse_cons, List.reverse_nil, List.nil_append, List.cons_append, List.append_nil, List.length_cons, List.length_nil, Option.toList_some, Option.toList_none, Nat.add_zero, Nat.zero_add, Nat.reduceAdd, Nat.reduceLT, Nat.reduceLeDiff, Nat.reduceEqDiff, Nat.reduceBEq, Nat.reduceMul, Nat.reduceSub, ↓reduceIte, reduceCtorEq, Int32.reduceLE, Int32.reduceLT, Int32.reduceAdd, Int32.reduceSub, Int32.reduceMul, Int32.reduceToNatClampNeg, Int64.reduceLT, Int64.reduceLE, Bool.or_false, Bool.false_or, Bool.or_true, Bool.true_or, and_false, false_and, or_false, false_or, not_true_eq_false, not_false_eq_true, gcall, glup_c, gbr_T, gbr_F, List.zip_cons_cons, List.zip_nil_right, List.zip_nil_left, List.all_cons, List.all_nil, Bool.and_true, Int.reduceLT, decide_true, decide_eq_true_eq, cmp_eq, cmp_le, cmp_lt, cmp_ge, cmp_gt, b2_e0, b2_e1, bz_e0, bz_e1, gbr_N, ne01, ne10, nem0, nem1, vp_in0, m1lt0, m1ge0, t1, b5, b6, e1]
    refine gbr_i (fun h => ?_) (fun h => ?_)
    · intro H locs ls hH1 hS1 hl1
      obtain ⟨sa, hsa⟩ := hE.2.2.2.2.1
      exact vx_throwS (own := RX6) (cls := mxA) (text := mxT) (names := mxN) (ik := 153) (is := 155) (ic := 157) (sa := sa) (A := fun q : Nat => base ≤ q) B.exec B.bytes hlt hown (by decide) (by decide) (hts _ mx_w1) (hts _ mx_w2) hsa (mx_at hts hE) mx_ot hE.2.2.2.2.2.1 hE.2.2.2.2.2.2 hS1 (hl1.1.trans hml.symm) dX6_mean_7 dX6_mean_10 dX6_mean_11 dX6_mean_13 dX6_mean_16 (fun x hx => (htab x hx).elim) (by decide) (by decide) (by decide) (by decide) B.notSynchronized
        (fun t _ hz hq => ⟨rfl, h, ⟨_, hH1.more hz hq⟩, Nat.le_trans hS1.1 hz, fun q h1 h2 => by rw [hq q (Nat.lt_of_lt_of_le h1 hS1.1)]; exact hS1.2.1 q h1 h2⟩) hS1.2.2 (by decide) (by decide)
    · have h3 : ¬ nI (S.2.2.2.2.2.2.1.1 - S.2.2.2.2.2.2.1.2.1 - S.2.2.2.2.2.2.1.2.2.1) = 0 := by rw [e1]; exact h
      have h4 : nI S.2.2.2.2.2.2.1.2.2.2 / nI (S.2.2.2.2.2.2.1.1 - S.2.2.2.2.2.2.1.2.1 - S.2.2.2.2.2.2.1.2.2.1) = qMean S := by
        rw [qMean, if_neg h, pk_div (by omega) (by omega) (by omega)]
      rw [h4]
      exact ⟨h, h, rfl⟩
  have hl := lv_entry [Value.ref X] (n := 1) (Nat.le_of_ble_eq_true rfl)
  rw [lg_entry_eq]
  refine hbody s.heap [] _ hH va_S.rf ⟨hl.1, hl.2.1, fun i v hi => ?_⟩
  have h1 := lent_args [Value.ref X] 0 i v (lpad_get 1 _ i v hi)
  rw [Nat.zero_add] at h1
  exact hl.2.2 _ h1
