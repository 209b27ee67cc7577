-- deps: 12 13
section MB2
variable {G : AG} {h : AH} {n : Nat} {B : SB} {T r : Nat} {X E : Nat → Nat → Nat}
set_option maxRecDepth 100000 in
set_option maxHeartbeats 400000 in
theorem c_X7_burnsOnce (W : WC n B T r X E) (R : RC n B T r X E h) {k hw : Nat} (hk : k < n) (hh : hw < 100) : AC G jX7_burnsOnce 5 0 0 [.ref 100, .int (nI k), .int (nI hw)] h (fun v h' => v = none ∧ Sm [107, 131, 132] h h' ∧ RC n (s_burn (s_L X E r) hw B (s_fl B (k + 1))) T r X E h') := by
  have lp : ∀ (u : Nat) (B1 : SB) (h1 : AH), u ≤ n → WFB n B1 → Sm [107, 131, 132] h h1 → RC n B1 T r X E h1 → s_burn (s_L X E r) hw B1 (s_fl B1 u) = s_burn (s_L X E r) hw B (s_fl B (k + 1)) → AW G 6 4 false cX7_burnsOnce (Option.none : Option FieldType) 5 (fun v h' => v = none ∧ Sm [107, 131, 132] h h' ∧ RC n (s_burn (s_L X E r) hw B (s_fl B (k + 1))) T r X E h') 0 0 2 [(0, .ref 100), (1, .int (nI k)), (2, .int (nI hw)), (3, .int (nI u - 1))] [] h1 := by
    intro u
    induction u using Nat.strongRecOn with
    | _ u ih =>
      intro B1 h1 hu W1 S1 R1 ha
      have M1 := R1.1
      unfold TopM at M1
      cases u with
      | zero =>
        refine ax_wp_ok (cuts := [ 2]) 40 ?_
        simp only [lv_args, fn0, fn1, fn2, fn3, ax_wp_s, ax_step, ax_ins, ax_nx, ax_cut, ax_lk, ax_st1, ax_st2, ax_ins0, ax_tg, ax_go, ax_sw, ax_lsw, ax_kc_s, ax_kc_n, ax_rf_rf, ax_isR_rf, ct_int, ct_long, ct_ref, ct_null, ct_rf, rf_ref, rf_null, isR_ref, isR_null, va_rf_s, va_rf_n, gv_0, gv_1, gv_2, pv_i, pv_r, pv_n, pv_q, pk_0, pk_2, pk_2n, pk_2q, pk_10, pk_11, rok_i, rok_z0, rok_z1, ex_eq, ex_z, ex_z2, ex_cz, List.filter_cons, List.filter_nil, List.take_succ_cons, List.take_zero, List.drop_succ_cons, List.drop_zero, List.reverse_cons, List.reverse_nil, List.nil_append, List.cons_append, List.append_nil, List.length_cons, List.length_nil, List.map_cons, List.map_nil, List.sum_cons, List.sum_nil, Bool.not_true, Bool.not_false, Bool.and_true, Bool.true_and, Bool.and_false, Bool.false_and, Bool.or_false, Bool.false_or, Bool.true_or, Bool.or_true, beq_self_eq_true, Nat.reduceBEq, Nat.reduceAdd, Nat.reduceSub, Nat.reduceLT, Nat.reduceLeDiff, Nat.reduceEqDiff, Int.reduceAdd, Int.reduceNeg, Int.reduceToNat, Int.reduceLE, Int.reduceNatCast, Int.reduceNatCast', ite_true, ite_false, if_true, if_false, reduceIte, true_and, and_true, false_and, and_false, true_or, or_true, false_or, or_false, Nat.sub_zero, Nat.le_refl, Bool.false_eq_true, Bool.true_eq_false, false_implies, true_implies, implies_true, not_true_eq_false, not_false_eq_true, eq_self, Fin.isValue, Nat.zero_add, Nat.add_zero, and_self, ne_eq, b01, Int32.reduceLT, Int32.reduceLE, z32, z64, vl_0, tl_0, vl_1, tl_1, vl_2, tl_2, vl_3, tl_3, vl_4, tl_4, vl_5, tl_5, vl_6, tl_6, vl_7, tl_7, vl_8, tl_8, vl_9, tl_9, m_X7_burnsOnce, dX7_burnsOnce_0, dX7_burnsOnce_1, dX7_burnsOnce_2, dX7_burnsOnce_3, ki_m1, dX7_burnsOnce_4, dX7_burnsOnce_7, dX7_burnsOnce_8, fl_6_28, dX7_burnsOnce_11, dX7_burnsOnce_12, dX7_burnsOnce_13, dX7_burnsOnce_16, dX7_burnsOnce_17, dX7_burnsOnce_18, dX7_burnsOnce_19, dX7_burnsOnce_20, dX7_burnsOnce_21, cl_6_226, dX7_burnsOnce_24, dX7_burnsOnce_25, ki_0, dX7_burnsOnce_26, kb_99, dX7_burnsOnce_28, cl_6_176, dX7_burnsOnce_31, dX7_burnsOnce_32, dX7_burnsOnce_33, fl_6_7, dX7_burnsOnce_36, dX7_burnsOnce_37, dX7_burnsOnce_38, dX7_burnsOnce_39, dX7_burnsOnce_42, M1, i_m1m]
        rw [← ha]
        exact ⟨S1, R1⟩
      | succ v =>
        have hV : v < n := by omega
        have R := R1.2.1
        have W0 := W
        have W := W1
        have hv31 : v < 2 ^ 31 := by have := W.1; omega
        have hc : (nI v).toNatClampNeg = v := nI_clamp hv31
        have hin : vp_in (nI v) 10 := vp_in_nI (by have := W.1; omega) (by decide)
        have hm1 : ¬ nI v = -1 := i_nm1 hv31
        obtain ⟨r0, r1, r2, r3, r4, r5, r6⟩ := R.2 v hV
        obtain ⟨w0, w1, w2, w2b, w3, w4, w5, w6⟩ := W.2 v hV
        rw [i_m1]
        refine ax_wp_ok (cuts := [ 2]) 40 ?_
        simp only [lv_args, fn0, fn1, fn2, fn3, ax_wp_s, ax_step, ax_ins, ax_nx, ax_cut, ax_lk, ax_st1, ax_st2, ax_ins0, ax_tg, ax_go, ax_sw, ax_lsw, ax_kc_s, ax_kc_n, ax_rf_rf, ax_isR_rf, ct_int, ct_long, ct_ref, ct_null, ct_rf, rf_ref, rf_null, isR_ref, isR_null, va_rf_s, va_rf_n, gv_0, gv_1, gv_2, pv_i, pv_r, pv_n, pv_q, pk_0, pk_2, pk_2n, pk_2q, pk_10, pk_11, rok_i, rok_z0, rok_z1, ex_eq, ex_z, ex_z2, ex_cz, List.filter_cons, List.filter_nil, List.take_succ_cons, List.take_zero, List.drop_succ_cons, List.drop_zero, List.reverse_cons, List.reverse_nil, List.nil_append, List.cons_append, List.append_nil, List.length_cons, List.length_nil, List.map_cons, List.map_nil, List.sum_cons, List.sum_nil, Bool.not_true, Bool.not_false, Bool.and_true, Bool.true_and, Bool.and_false, Bool.false_and, Bool.or_false, Bool.false_or, Bool.true_or, Bool.or_true, beq_self_eq_true, Nat.reduceBEq, Nat.reduceAdd, Nat.reduceSub, Nat.reduceLT, Nat.reduceLeDiff, Nat.reduceEqDiff, Int.reduceAdd, Int.reduceNeg, Int.reduceToNat, Int.reduceLE, Int.reduceNatCast, Int.reduceNatCast', ite_true, ite_false, if_true, if_false, reduceIte, true_and, and_true, false_and, and_false, true_or, or_true, false_or, or_false, Nat.sub_zero, Nat.le_refl, Bool.false_eq_true, Bool.true_eq_false, false_implies, true_implies, implies_true, not_true_eq_false, not_false_eq_true, eq_self, Fin.isValue, Nat.zero_add, Nat.add_zero, and_self, ne_eq, b01, Int32.reduceLT, Int32.reduceLE, z32, z64, vl_0, tl_0, vl_1, tl_1, vl_2, tl_2, vl_3, tl_3, vl_4, tl_4, vl_5, tl_5, vl_6, tl_6, vl_7, tl_7, vl_8, tl_8, vl_9, tl_9, m_X7_burnsOnce, dX7_burnsOnce_0, dX7_burnsOnce_1, dX7_burnsOnce_2, dX7_burnsOnce_3, ki_m1, dX7_burnsOnce_4, dX7_burnsOnce_7, dX7_burnsOnce_8, fl_6_28, dX7_burnsOnce_11, dX7_burnsOnce_12, dX7_burnsOnce_13, dX7_burnsOnce_16, dX7_burnsOnce_17, dX7_burnsOnce_18, dX7_burnsOnce_19, dX7_burnsOnce_20, dX7_burnsOnce_21, cl_6_226, dX7_burnsOnce_24, dX7_burnsOnce_25, ki_0, dX7_burnsOnce_26, kb_99, dX7_burnsOnce_28, cl_6_176, dX7_burnsOnce_31, dX7_burnsOnce_32, dX7_burnsOnce_33, fl_6_7, dX7_burnsOnce_36, dX7_burnsOnce_37, dX7_burnsOnce_38, dX7_burnsOnce_39, dX7_burnsOnce_42, M1, hc, hin, hm1, r6]
        refine ax_cv (c_X7_grows R1.1 W1 R1.2.1 W0.2 R1.2.2 hV hh) (by decide) (fun h2 S2 => ?_)
        have R2 := RC_Sm S2 R1 (by decide)
        have M2 := R2.1
        unfold TopM at M2
        have g := s_gr_le (s_L X E r) W1 hV hw
        simp only [lv_args, fn0, fn1, fn2, fn3, ax_wp_s, ax_step, ax_ins, ax_nx, ax_cut, ax_lk, ax_st1, ax_st2, ax_ins0, ax_tg, ax_go, ax_sw, ax_lsw, ax_kc_s, ax_kc_n, ax_rf_rf, ax_isR_rf, ct_int, ct_long, ct_ref, ct_null, ct_rf, rf_ref, rf_null, isR_ref, isR_null, va_rf_s, va_rf_n, gv_0, gv_1, gv_2, pv_i, pv_r, pv_n, pv_q, pk_0, pk_2, pk_2n, pk_2q, pk_10, pk_11, rok_i, rok_z0, rok_z1, ex_eq, ex_z, ex_z2, ex_cz, List.filter_cons, List.filter_nil, List.take_succ_cons, List.take_zero, List.drop_succ_cons, List.drop_zero, List.reverse_cons, List.reverse_nil, List.nil_append, List.cons_append, List.append_nil, List.length_cons, List.length_nil, List.map_cons, List.map_nil, List.sum_cons, List.sum_nil, Bool.not_true, Bool.not_false, Bool.and_true, Bool.true_and, Bool.and_false, Bool.false_and, Bool.or_false, Bool.false_or, Bool.true_or, Bool.or_true, beq_self_eq_true, Nat.reduceBEq, Nat.reduceAdd, Nat.reduceSub, Nat.reduceLT, Nat.reduceLeDiff, Nat.reduceEqDiff, Int.reduceAdd, Int.reduceNeg, Int.reduceToNat, Int.reduceLE, Int.reduceNatCast, Int.reduceNatCast', ite_true, ite_false, if_true, if_false, reduceIte, true_and, and_true, false_and, and_false, true_or, or_true, false_or, or_false, Nat.sub_zero, Nat.le_refl, Bool.false_eq_true, Bool.true_eq_false, false_implies, true_implies, implies_true, not_true_eq_false, not_false_eq_true, eq_self, Fin.isValue, Nat.zero_add, Nat.add_zero, and_self, ne_eq, b01, Int32.reduceLT, Int32.reduceLE, z32, z64, vl_0, tl_0, vl_1, tl_1, vl_2, tl_2, vl_3, tl_3, vl_4, tl_4, vl_5, tl_5, vl_6, tl_6, vl_7, tl_7, vl_8, tl_8, vl_9, tl_9, m_X7_burnsOnce, dX7_burnsOnce_0, dX7_burnsOnce_1, dX7_burnsOnce_2, dX7_burnsOnce_3, ki_m1, dX7_burnsOnce_4, dX7_burnsOnce_7, dX7_burnsOnce_8, fl_6_28, dX7_burnsOnce_11, dX7_burnsOnce_12, dX7_burnsOnce_13, dX7_burnsOnce_16, dX7_burnsOnce_17, dX7_burnsOnce_18, dX7_burnsOnce_19, dX7_burnsOnce_20, dX7_burnsOnce_21, cl_6_226, dX7_burnsOnce_24, dX7_burnsOnce_25, ki_0, dX7_burnsOnce_26, kb_99, dX7_burnsOnce_28, cl_6_176, dX7_burnsOnce_31, dX7_burnsOnce_32, dX7_burnsOnce_33, fl_6_7, dX7_burnsOnce_36, dX7_burnsOnce_37, dX7_burnsOnce_38, dX7_burnsOnce_39, dX7_burnsOnce_42, M2, nI_add]
        refine ax_pu (c_X7_within _ _ _ _ _) (by decide) ?_
        rw [show (99 : Int32) = nI 99 from rfl, s_within_n (by omega) (by decide)]
        simp only [lv_args, fn0, fn1, fn2, fn3, ax_wp_s, ax_step, ax_ins, ax_nx, ax_cut, ax_lk, ax_st1, ax_st2, ax_ins0, ax_tg, ax_go, ax_sw, ax_lsw, ax_kc_s, ax_kc_n, ax_rf_rf, ax_isR_rf, ct_int, ct_long, ct_ref, ct_null, ct_rf, rf_ref, rf_null, isR_ref, isR_null, va_rf_s, va_rf_n, gv_0, gv_1, gv_2, pv_i, pv_r, pv_n, pv_q, pk_0, pk_2, pk_2n, pk_2q, pk_10, pk_11, rok_i, rok_z0, rok_z1, ex_eq, ex_z, ex_z2, ex_cz, List.filter_cons, List.filter_nil, List.take_succ_cons, List.take_zero, List.drop_succ_cons, List.drop_zero, List.reverse_cons, List.reverse_nil, List.nil_append, List.cons_append, List.append_nil, List.length_cons, List.length_nil, List.map_cons, List.map_nil, List.sum_cons, List.sum_nil, Bool.not_true, Bool.not_false, Bool.and_true, Bool.true_and, Bool.and_false, Bool.false_and, Bool.or_false, Bool.false_or, Bool.true_or, Bool.or_true, beq_self_eq_true, Nat.reduceBEq, Nat.reduceAdd, Nat.reduceSub, Nat.reduceLT, Nat.reduceLeDiff, Nat.reduceEqDiff, Int.reduceAdd, Int.reduceNeg, Int.reduceToNat, Int.reduceLE, Int.reduceNatCast, Int.reduceNatCast', ite_true, ite_false, if_true, if_false, reduceIte, true_and, and_true, false_and, and_false, true_or, or_true, false_or, or_false, Nat.sub_zero, Nat.le_refl, Bool.false_eq_true, Bool.true_eq_false, false_implies, true_implies, implies_true, not_true_eq_false, not_false_eq_true, eq_self, Fin.isValue, Nat.zero_add, Nat.add_zero, and_self, ne_eq, b01, Int32.reduceLT, Int32.reduceLE, z32, z64, vl_0, tl_0, vl_1, tl_1, vl_2, tl_2, vl_3, tl_3, vl_4, tl_4, vl_5, tl_5, vl_6, tl_6, vl_7, tl_7, vl_8, tl_8, vl_9, tl_9, m_X7_burnsOnce, dX7_burnsOnce_0, dX7_burnsOnce_1, dX7_burnsOnce_2, dX7_burnsOnce_3, ki_m1, dX7_burnsOnce_4, dX7_burnsOnce_7, dX7_burnsOnce_8, fl_6_28, dX7_burnsOnce_11, dX7_burnsOnce_12, dX7_burnsOnce_13, dX7_burnsOnce_16, dX7_burnsOnce_17, dX7_burnsOnce_18, dX7_burnsOnce_19, dX7_burnsOnce_20, dX7_burnsOnce_21, cl_6_226, dX7_burnsOnce_24, dX7_burnsOnce_25, ki_0, dX7_burnsOnce_26, kb_99, dX7_burnsOnce_28, cl_6_176, dX7_burnsOnce_31, dX7_burnsOnce_32, dX7_burnsOnce_33, fl_6_7, dX7_burnsOnce_36, dX7_burnsOnce_37, dX7_burnsOnce_38, dX7_burnsOnce_39, dX7_burnsOnce_42, M2, hc, hin, setI_at, setI_1, setI_22]
        have R3 := RC_up6 R2 v (min 99 (B1 v 6 + s_gr (s_L X E r) B1 v hw))
        have q0 := (R3.2.1.2 v hV).1
        rw [s_up_0 _ (by decide)] at q0
        rw [setI_at] at q0
        simp only [Nat.reduceEqDiff, false_and, if_false] at q0
        rw [q0]
        refine ih (B1 v 0) (by omega) _ _ (by omega) (WFB_up6 W1 (Nat.min_le_left _ _)) (Sm_st (Sm_t2 S1 S2 (by decide)) (.head _)) R3 ?_
        rw [s_fl_up _ (by decide), ← ha, s_fl_s W1 hV]
        rfl
  refine ax_intro 6 false cdX7_burnsOnce (by decide +kernel) (by decide +kernel) (by decide +kernel) (Nat.le_of_ble_eq_true rfl) ?_
  refine ax_wp_ok (cuts := [ 2]) 30 ?_
  simp only [lv_args, fn0, fn1, fn2, fn3, ax_wp_s, ax_step, ax_ins, ax_nx, ax_cut, ax_lk, ax_st1, ax_st2, ax_ins0, ax_tg, ax_go, ax_sw, ax_lsw, ax_kc_s, ax_kc_n, ax_rf_rf, ax_isR_rf, ct_int, ct_long, ct_ref, ct_null, ct_rf, rf_ref, rf_null, isR_ref, isR_null, va_rf_s, va_rf_n, gv_0, gv_1, gv_2, pv_i, pv_r, pv_n, pv_q, pk_0, pk_2, pk_2n, pk_2q, pk_10, pk_11, rok_i, rok_z0, rok_z1, ex_eq, ex_z, ex_z2, ex_cz, List.filter_cons, List.filter_nil, List.take_succ_cons, List.take_zero, List.drop_succ_cons, List.drop_zero, List.reverse_cons, List.reverse_nil, List.nil_append, List.cons_append, List.append_nil, List.length_cons, List.length_nil, List.map_cons, List.map_nil, List.sum_cons, List.sum_nil, Bool.not_true, Bool.not_false, Bool.and_true, Bool.true_and, Bool.and_false, Bool.false_and, Bool.or_false, Bool.false_or, Bool.true_or, Bool.or_true, beq_self_eq_true, Nat.reduceBEq, Nat.reduceAdd, Nat.reduceSub, Nat.reduceLT, Nat.reduceLeDiff, Nat.reduceEqDiff, Int.reduceAdd, Int.reduceNeg, Int.reduceToNat, Int.reduceLE, Int.reduceNatCast, Int.reduceNatCast', ite_true, ite_false, if_true, if_false, reduceIte, true_and, and_true, false_and, and_false, true_or, or_true, false_or, or_false, Nat.sub_zero, Nat.le_refl, Bool.false_eq_true, Bool.true_eq_false, false_implies, true_implies, implies_true, not_true_eq_false, not_false_eq_true, eq_self, Fin.isValue, Nat.zero_add, Nat.add_zero, and_self, ne_eq, b01, Int32.reduceLT, Int32.reduceLE, z32, z64, vl_0, tl_0, vl_1, tl_1, vl_2, tl_2, vl_3, tl_3, vl_4, tl_4, vl_5, tl_5, vl_6, tl_6, vl_7, tl_7, vl_8, tl_8, vl_9, tl_9, m_X7_burnsOnce, dX7_burnsOnce_0, dX7_burnsOnce_1, dX7_burnsOnce_2, dX7_burnsOnce_3, ki_m1, dX7_burnsOnce_4, dX7_burnsOnce_7, dX7_burnsOnce_8, fl_6_28, dX7_burnsOnce_11, dX7_burnsOnce_12, dX7_burnsOnce_13, dX7_burnsOnce_16, dX7_burnsOnce_17, dX7_burnsOnce_18, dX7_burnsOnce_19, dX7_burnsOnce_20, dX7_burnsOnce_21, cl_6_226, dX7_burnsOnce_24, dX7_burnsOnce_25, ki_0, dX7_burnsOnce_26, kb_99, dX7_burnsOnce_28, cl_6_176, dX7_burnsOnce_31, dX7_burnsOnce_32, dX7_burnsOnce_33, fl_6_7, dX7_burnsOnce_36, dX7_burnsOnce_37, dX7_burnsOnce_38, dX7_burnsOnce_39, dX7_burnsOnce_42]
  have := lp (k + 1) B h (by omega) W.1 (Sm_rf _ _) R rfl
  rw [i_m1] at this
  exact this
set_option maxRecDepth 100000 in
set_option maxHeartbeats 400000 in
theorem c_X7_staysIn (W : WC n B T r X E) (R : RC n B T r X E h) {k fc : Nat} (hk : k < n) (hf : fc < 100) : AC G jX7_staysIn 5 0 0 [.ref 100, .int (nI k), .int (nI fc)] h (fun v h' => v = some (.int (nI (s_sty (s_L X E r) B fc (s_fl B (k + 1))) - 1)) ∧ Sm [131, 132] h h') := by
  have lp : ∀ (u : Nat) (h1 : AH), u ≤ n → Sm [131, 132] h h1 → s_sty (s_L X E r) B fc (s_fl B u) = s_sty (s_L X E r) B fc (s_fl B (k + 1)) → AW G 6 4 false cX7_staysIn (Option.some FieldType.int) 5 (fun v h' => v = some (.int (nI (s_sty (s_L X E r) B fc (s_fl B (k + 1))) - 1)) ∧ Sm [131, 132] h h') 0 0 2 [(0, .ref 100), (1, .int (nI k)), (2, .int (nI fc)), (3, .int (nI u - 1))] [] h1 := by
    intro u
    induction u using Nat.strongRecOn with
    | _ u ih =>
      intro h1 hu S1 ha
      have R1 := RC_Sm S1 R (by decide)
      have M1 := R1.1
      unfold TopM at M1
      cases u with
      | zero =>
        refine ax_wp_ok (cuts := [ 2]) 40 ?_
        simp only [lv_args, fn0, fn1, fn2, fn3, ax_wp_s, ax_step, ax_ins, ax_nx, ax_cut, ax_lk, ax_st1, ax_st2, ax_ins0, ax_tg, ax_go, ax_sw, ax_lsw, ax_kc_s, ax_kc_n, ax_rf_rf, ax_isR_rf, ct_int, ct_long, ct_ref, ct_null, ct_rf, rf_ref, rf_null, isR_ref, isR_null, va_rf_s, va_rf_n, gv_0, gv_1, gv_2, pv_i, pv_r, pv_n, pv_q, pk_0, pk_2, pk_2n, pk_2q, pk_10, pk_11, rok_i, rok_z0, rok_z1, ex_eq, ex_z, ex_z2, ex_cz, List.filter_cons, List.filter_nil, List.take_succ_cons, List.take_zero, List.drop_succ_cons, List.drop_zero, List.reverse_cons, List.reverse_nil, List.nil_append, List.cons_append, List.append_nil, List.length_cons, List.length_nil, List.map_cons, List.map_nil, List.sum_cons, List.sum_nil, Bool.not_true, Bool.not_false, Bool.and_true, Bool.true_and, Bool.and_false, Bool.false_and, Bool.or_false, Bool.false_or, Bool.true_or, Bool.or_true, beq_self_eq_true, Nat.reduceBEq, Nat.reduceAdd, Nat.reduceSub, Nat.reduceLT, Nat.reduceLeDiff, Nat.reduceEqDiff, Int.reduceAdd, Int.reduceNeg, Int.reduceToNat, Int.reduceLE, Int.reduceNatCast, Int.reduceNatCast', ite_true, ite_false, if_true, if_false, reduceIte, true_and, and_true, false_and, and_false, true_or, or_true, false_or, or_false, Nat.sub_zero, Nat.le_refl, Bool.false_eq_true, Bool.true_eq_false, false_implies, true_implies, implies_true, not_true_eq_false, not_false_eq_true, eq_self, Fin.isValue, Nat.zero_add, Nat.add_zero, and_self, ne_eq, b01, Int32.reduceLT, Int32.reduceLE, z32, z64, vl_0, tl_0, vl_1, tl_1, vl_2, tl_2, vl_3, tl_3, vl_4, tl_4, vl_5, tl_5, vl_6, tl_6, vl_7, tl_7, vl_8, tl_8, vl_9, tl_9, m_X7_staysIn, dX7_staysIn_0, dX7_staysIn_1, dX7_staysIn_2, dX7_staysIn_3, ki_m1, dX7_staysIn_4, dX7_staysIn_7, dX7_staysIn_8, dX7_staysIn_9, cl_6_179, dX7_staysIn_12, dX7_staysIn_15, dX7_staysIn_16, dX7_staysIn_17, cl_6_211, dX7_staysIn_20, dX7_staysIn_21, dX7_staysIn_24, dX7_staysIn_25, fl_6_7, dX7_staysIn_28, dX7_staysIn_29, dX7_staysIn_30, dX7_staysIn_31, dX7_staysIn_34, dX7_staysIn_35, M1, i_m1m]
        rw [← ha]
        exact ⟨rfl, S1⟩
      | succ v =>
        have hV : v < n := by omega
        have R0 := R
        have R := R1.2.1
        have W0 := W
        have W := W.1
        have hv31 : v < 2 ^ 31 := by have := W.1; omega
        have hc : (nI v).toNatClampNeg = v := nI_clamp hv31
        have hin : vp_in (nI v) 10 := vp_in_nI (by have := W.1; omega) (by decide)
        have hm1 : ¬ nI v = -1 := i_nm1 hv31
        obtain ⟨r0, r1, r2, r3, r4, r5, r6⟩ := R.2 v hV
        obtain ⟨w0, w1, w2, w2b, w3, w4, w5, w6⟩ := W.2 v hV
        rw [i_m1]
        have e : s_sty (s_L X E r) B fc (s_fl B (v + 1)) = if s_iw B v = 0 ∨ fc < s_ask (s_L X E r) B 1 v 0 0 then v + 1 else s_sty (s_L X E r) B fc (s_fl B (B v 0)) := by
          rw [s_fl_s W hV]
          rfl
        rw [e] at ha
        refine ax_wp_ok (cuts := [ 2]) 40 ?_
        simp only [lv_args, fn0, fn1, fn2, fn3, ax_wp_s, ax_step, ax_ins, ax_nx, ax_cut, ax_lk, ax_st1, ax_st2, ax_ins0, ax_tg, ax_go, ax_sw, ax_lsw, ax_kc_s, ax_kc_n, ax_rf_rf, ax_isR_rf, ct_int, ct_long, ct_ref, ct_null, ct_rf, rf_ref, rf_null, isR_ref, isR_null, va_rf_s, va_rf_n, gv_0, gv_1, gv_2, pv_i, pv_r, pv_n, pv_q, pk_0, pk_2, pk_2n, pk_2q, pk_10, pk_11, rok_i, rok_z0, rok_z1, ex_eq, ex_z, ex_z2, ex_cz, List.filter_cons, List.filter_nil, List.take_succ_cons, List.take_zero, List.drop_succ_cons, List.drop_zero, List.reverse_cons, List.reverse_nil, List.nil_append, List.cons_append, List.append_nil, List.length_cons, List.length_nil, List.map_cons, List.map_nil, List.sum_cons, List.sum_nil, Bool.not_true, Bool.not_false, Bool.and_true, Bool.true_and, Bool.and_false, Bool.false_and, Bool.or_false, Bool.false_or, Bool.true_or, Bool.or_true, beq_self_eq_true, Nat.reduceBEq, Nat.reduceAdd, Nat.reduceSub, Nat.reduceLT, Nat.reduceLeDiff, Nat.reduceEqDiff, Int.reduceAdd, Int.reduceNeg, Int.reduceToNat, Int.reduceLE, Int.reduceNatCast, Int.reduceNatCast', ite_true, ite_false, if_true, if_false, reduceIte, true_and, and_true, false_and, and_false, true_or, or_true, false_or, or_false, Nat.sub_zero, Nat.le_refl, Bool.false_eq_true, Bool.true_eq_false, false_implies, true_implies, implies_true, not_true_eq_false, not_false_eq_true, eq_self, Fin.isValue, Nat.zero_add, Nat.add_zero, and_self, ne_eq, b01, Int32.reduceLT, Int32.reduceLE, z32, z64, vl_0, tl_0, vl_1, tl_1, vl_2, tl_2, vl_3, tl_3, vl_4, tl_4, vl_5, tl_5, vl_6, tl_6, vl_7, tl_7, vl_8, tl_8, vl_9, tl_9, m_X7_staysIn, dX7_staysIn_0, dX7_staysIn_1, dX7_staysIn_2, dX7_staysIn_3, ki_m1, dX7_staysIn_4, dX7_staysIn_7, dX7_staysIn_8, dX7_staysIn_9, cl_6_179, dX7_staysIn_12, dX7_staysIn_15, dX7_staysIn_16, dX7_staysIn_17, cl_6_211, dX7_staysIn_20, dX7_staysIn_21, dX7_staysIn_24, dX7_staysIn_25, fl_6_7, dX7_staysIn_28, dX7_staysIn_29, dX7_staysIn_30, dX7_staysIn_31, dX7_staysIn_34, dX7_staysIn_35, M1, hc, hin, hm1]
        refine ax_pu (c_X7_is R1.1 W R1.2.1 hV) (by decide) ?_
        have iw : s_iw B v ≤ 9 := by
          unfold s_iw
          split
          · omega
          · split <;> omega
        have e1 := i_leL (a := s_iw B v) (n := 0) (by omega) (by decide)
        simp only [lv_args, fn0, fn1, fn2, fn3, ax_wp_s, ax_step, ax_ins, ax_nx, ax_cut, ax_lk, ax_st1, ax_st2, ax_ins0, ax_tg, ax_go, ax_sw, ax_lsw, ax_kc_s, ax_kc_n, ax_rf_rf, ax_isR_rf, ct_int, ct_long, ct_ref, ct_null, ct_rf, rf_ref, rf_null, isR_ref, isR_null, va_rf_s, va_rf_n, gv_0, gv_1, gv_2, pv_i, pv_r, pv_n, pv_q, pk_0, pk_2, pk_2n, pk_2q, pk_10, pk_11, rok_i, rok_z0, rok_z1, ex_eq, ex_z, ex_z2, ex_cz, List.filter_cons, List.filter_nil, List.take_succ_cons, List.take_zero, List.drop_succ_cons, List.drop_zero, List.reverse_cons, List.reverse_nil, List.nil_append, List.cons_append, List.append_nil, List.length_cons, List.length_nil, List.map_cons, List.map_nil, List.sum_cons, List.sum_nil, Bool.not_true, Bool.not_false, Bool.and_true, Bool.true_and, Bool.and_false, Bool.false_and, Bool.or_false, Bool.false_or, Bool.true_or, Bool.or_true, beq_self_eq_true, Nat.reduceBEq, Nat.reduceAdd, Nat.reduceSub, Nat.reduceLT, Nat.reduceLeDiff, Nat.reduceEqDiff, Int.reduceAdd, Int.reduceNeg, Int.reduceToNat, Int.reduceLE, Int.reduceNatCast, Int.reduceNatCast', ite_true, ite_false, if_true, if_false, reduceIte, true_and, and_true, false_and, and_false, true_or, or_true, false_or, or_false, Nat.sub_zero, Nat.le_refl, Bool.false_eq_true, Bool.true_eq_false, false_implies, true_implies, implies_true, not_true_eq_false, not_false_eq_true, eq_self, Fin.isValue, Nat.zero_add, Nat.add_zero, and_self, ne_eq, b01, Int32.reduceLT, Int32.reduceLE, z32, z64, vl_0, tl_0, vl_1, tl_1, vl_2, tl_2, vl_3, tl_3, vl_4, tl_4, vl_5, tl_5, vl_6, tl_6, vl_7, tl_7, vl_8, tl_8, vl_9, tl_9, m_X7_staysIn, dX7_staysIn_0, dX7_staysIn_1, dX7_staysIn_2, dX7_staysIn_3, ki_m1, dX7_staysIn_4, dX7_staysIn_7, dX7_staysIn_8, dX7_staysIn_9, cl_6_179, dX7_staysIn_12, dX7_staysIn_15, dX7_staysIn_16, dX7_staysIn_17, cl_6_211, dX7_staysIn_20, dX7_staysIn_21, dX7_staysIn_24, dX7_staysIn_25, fl_6_7, dX7_staysIn_28, dX7_staysIn_29, dX7_staysIn_30, dX7_staysIn_31, dX7_staysIn_34, dX7_staysIn_35, M1, hc, hin, hm1, e1]
        refine ⟨fun z => ?_, fun z => ?_⟩
        · rw [if_pos (by omega)] at ha
          rw [← ha, i_m1]
          exact ⟨rfl, S1⟩
        · refine ax_cv (c_X7_heavy R1.1 W R1.2.1 W0.2 R1.2.2 hV) (by decide) (fun h2 S2 => ?_)
          have R2 := RC_Sm S2 R1 (by decide)
          have M2 := R2.1
          unfold TopM at M2
          have q0 := (R2.2.1.2 v hV).1
          have lk := s_ask_le (s_L X E r) B 1 v 0 0
          have e2 := nI_ltI (a := fc) (b := s_ask (s_L X E r) B 1 v 0 0) (by omega) (by omega)
          simp only [lv_args, fn0, fn1, fn2, fn3, ax_wp_s, ax_step, ax_ins, ax_nx, ax_cut, ax_lk, ax_st1, ax_st2, ax_ins0, ax_tg, ax_go, ax_sw, ax_lsw, ax_kc_s, ax_kc_n, ax_rf_rf, ax_isR_rf, ct_int, ct_long, ct_ref, ct_null, ct_rf, rf_ref, rf_null, isR_ref, isR_null, va_rf_s, va_rf_n, gv_0, gv_1, gv_2, pv_i, pv_r, pv_n, pv_q, pk_0, pk_2, pk_2n, pk_2q, pk_10, pk_11, rok_i, rok_z0, rok_z1, ex_eq, ex_z, ex_z2, ex_cz, List.filter_cons, List.filter_nil, List.take_succ_cons, List.take_zero, List.drop_succ_cons, List.drop_zero, List.reverse_cons, List.reverse_nil, List.nil_append, List.cons_append, List.append_nil, List.length_cons, List.length_nil, List.map_cons, List.map_nil, List.sum_cons, List.sum_nil, Bool.not_true, Bool.not_false, Bool.and_true, Bool.true_and, Bool.and_false, Bool.false_and, Bool.or_false, Bool.false_or, Bool.true_or, Bool.or_true, beq_self_eq_true, Nat.reduceBEq, Nat.reduceAdd, Nat.reduceSub, Nat.reduceLT, Nat.reduceLeDiff, Nat.reduceEqDiff, Int.reduceAdd, Int.reduceNeg, Int.reduceToNat, Int.reduceLE, Int.reduceNatCast, Int.reduceNatCast', ite_true, ite_false, if_true, if_false, reduceIte, true_and, and_true, false_and, and_false, true_or, or_true, false_or, or_false, Nat.sub_zero, Nat.le_refl, Bool.false_eq_true, Bool.true_eq_false, false_implies, true_implies, implies_true, not_true_eq_false, not_false_eq_true, eq_self, Fin.isValue, Nat.zero_add, Nat.add_zero, and_self, ne_eq, b01, Int32.reduceLT, Int32.reduceLE, z32, z64, vl_0, tl_0, vl_1, tl_1, vl_2, tl_2, vl_3, tl_3, vl_4, tl_4, vl_5, tl_5, vl_6, tl_6, vl_7, tl_7, vl_8, tl_8, vl_9, tl_9, m_X7_staysIn, dX7_staysIn_0, dX7_staysIn_1, dX7_staysIn_2, dX7_staysIn_3, ki_m1, dX7_staysIn_4, dX7_staysIn_7, dX7_staysIn_8, dX7_staysIn_9, cl_6_179, dX7_staysIn_12, dX7_staysIn_15, dX7_staysIn_16, dX7_staysIn_17, cl_6_211, dX7_staysIn_20, dX7_staysIn_21, dX7_staysIn_24, dX7_staysIn_25, fl_6_7, dX7_staysIn_28, dX7_staysIn_29, dX7_staysIn_30, dX7_staysIn_31, dX7_staysIn_34, dX7_staysIn_35, M2, hc, hin, q0, e2]
          refine ⟨fun y => ?_, fun y => ?_⟩
          · rw [if_pos (by omega)] at ha
            rw [← ha, i_m1]
            exact ⟨rfl, Sm_t2 S1 S2 (by decide)⟩
          · rw [if_neg (by omega)] at ha
            exact ih (B v 0) (by omega) h2 (by omega) (Sm_t2 S1 S2 (by decide)) ha
  refine ax_intro 6 false cdX7_staysIn (by decide +kernel) (by decide +kernel) (by decide +kernel) (Nat.le_of_ble_eq_true rfl) ?_
  refine ax_wp_ok (cuts := [ 2]) 30 ?_
  simp only [lv_args, fn0, fn1, fn2, fn3, ax_wp_s, ax_step, ax_ins, ax_nx, ax_cut, ax_lk, ax_st1, ax_st2, ax_ins0, ax_tg, ax_go, ax_sw, ax_lsw, ax_kc_s, ax_kc_n, ax_rf_rf, ax_isR_rf, ct_int, ct_long, ct_ref, ct_null, ct_rf, rf_ref, rf_null, isR_ref, isR_null, va_rf_s, va_rf_n, gv_0, gv_1, gv_2, pv_i, pv_r, pv_n, pv_q, pk_0, pk_2, pk_2n, pk_2q, pk_10, pk_11, rok_i, rok_z0, rok_z1, ex_eq, ex_z, ex_z2, ex_cz, List.filter_cons, List.filter_nil, List.take_succ_cons, List.take_zero, List.drop_succ_cons, List.drop_zero, List.reverse_cons, List.reverse_nil, List.nil_append, List.cons_append, List.append_nil, List.length_cons, List.length_nil, List.map_cons, List.map_nil, List.sum_cons, List.sum_nil, Bool.not_true, Bool.not_false, Bool.and_true, Bool.true_and, Bool.and_false, Bool.false_and, Bool.or_false, Bool.false_or, Bool.true_or, Bool.or_true, beq_self_eq_true, Nat.reduceBEq, Nat.reduceAdd, Nat.reduceSub, Nat.reduceLT, Nat.reduceLeDiff, Nat.reduceEqDiff, Int.reduceAdd, Int.reduceNeg, Int.reduceToNat, Int.reduceLE, Int.reduceNatCast, Int.reduceNatCast', ite_true, ite_false, if_true, if_false, reduceIte, true_and, and_true, false_and, and_false, true_or, or_true, false_or, or_false, Nat.sub_zero, Nat.le_refl, Bool.false_eq_true, Bool.true_eq_false, false_implies, true_implies, implies_true, not_true_eq_false, not_false_eq_true, eq_self, Fin.isValue, Nat.zero_add, Nat.add_zero, and_self, ne_eq, b01, Int32.reduceLT, Int32.reduceLE, z32, z64, vl_0, tl_0, vl_1, tl_1, vl_2, tl_2, vl_3, tl_3, vl_4, tl_4, vl_5, tl_5, vl_6, tl_6, vl_7, tl_7, vl_8, tl_8, vl_9, tl_9, m_X7_staysIn, dX7_staysIn_0, dX7_staysIn_1, dX7_staysIn_2, dX7_staysIn_3, ki_m1, dX7_staysIn_4, dX7_staysIn_7, dX7_staysIn_8, dX7_staysIn_9, cl_6_179, dX7_staysIn_12, dX7_staysIn_15, dX7_staysIn_16, dX7_staysIn_17, cl_6_211, dX7_staysIn_20, dX7_staysIn_21, dX7_staysIn_24, dX7_staysIn_25, fl_6_7, dX7_staysIn_28, dX7_staysIn_29, dX7_staysIn_30, dX7_staysIn_31, dX7_staysIn_34, dX7_staysIn_35]
  have := lp (k + 1) h (by omega) (Sm_rf _ _) rfl
  rw [i_m1] at this
  exact this
set_option maxRecDepth 100000 in
set_option maxHeartbeats 400000 in
theorem c_X7_sweeps (W : WC n B T r X E) (R : RC n B T r X E h) {k fc : Nat} (hk : k < n) (hf : fc < 100) : AC G jX7_sweeps 6 0 0 [.ref 100, .int (nI k), .int (nI fc)] h (fun v h' => v = some (.int (nI (s_swN (s_L X E r) fc B (s_fl B (k + 1))))) ∧ Sm [107, 131, 132] h h' ∧ RC n (s_swB (s_L X E r) fc B (s_fl B (k + 1))) T r X E h') := by
  generalize hst : s_sty (s_L X E r) B fc (s_fl B (k + 1)) = st
  have hst2 := s_sty_in (s_L X E r) B fc (s_fl B (k + 1))
  rw [hst] at hst2
  have lp : ∀ (u : Nat) (w : Nat) (B1 : SB) (h1 : AH) (x6 : Value), u ≤ n → WFB n B1 → Sm [107, 131, 132] h h1 → RC n B1 T r X E h1 → (st = 0 ∨ ∃ c, c ∈ s_fl B1 u ∧ st = c + 1) → s_brush B1 (s_pre st (s_fl B1 u)) = s_swB (s_L X E r) fc B (s_fl B (k + 1)) → w + s_went B1 (s_pre st (s_fl B1 u)) = s_swN (s_L X E r) fc B (s_fl B (k + 1)) → AW G 6 7 false cX7_sweeps (Option.some FieldType.int) 6 (fun v h' => v = some (.int (nI (s_swN (s_L X E r) fc B (s_fl B (k + 1))))) ∧ Sm [107, 131, 132] h h' ∧ RC n (s_swB (s_L X E r) fc B (s_fl B (k + 1))) T r X E h') 0 0 13 [(0, .ref 100), (1, .int (nI k)), (2, .int (nI fc)), (3, .int (nI st - 1)), (4, .int (nI w)), (5, .int (nI u - 1))] [] h1 := by
    intro u
    induction u using Nat.strongRecOn with
    | _ u ih =>
      intro w B1 h1 x6 hu W1 S1 R1 hs ha hb
      have M1 := R1.1
      unfold TopM at M1
      have hs31 : st < 2 ^ 31 := by
        rcases hs with q | ⟨c, q1, q2⟩
        · omega
        · have := s_fl_lt W1 u c hu q1
          have := W1.1
          omega
      have hu31 : u < 2 ^ 31 := by have := W1.1; omega
      have e : (nI u - 1 = nI st - 1) ↔ u = st := by
        rw [← nI_eq hu31 hs31]
        constructor
        · intro q
          have := congrArg (· + 1) q
          simpa using this
        · intro q
          rw [q]
      by_cases hz : u = st
      · subst hz
        have hp : s_pre u (s_fl B1 u) = [] := by
          cases u with
          | zero => rfl
          | succ v =>
            rw [s_fl_s W1 (by omega)]
            exact if_pos rfl
        rw [hp] at ha hb
        refine ax_wp_ok (cuts := [ 13]) 40 ?_
        simp only [lv_args, fn0, fn1, fn2, fn3, ax_wp_s, ax_step, ax_ins, ax_nx, ax_cut, ax_lk, ax_st1, ax_st2, ax_ins0, ax_tg, ax_go, ax_sw, ax_lsw, ax_kc_s, ax_kc_n, ax_rf_rf, ax_isR_rf, ct_int, ct_long, ct_ref, ct_null, ct_rf, rf_ref, rf_null, isR_ref, isR_null, va_rf_s, va_rf_n, gv_0, gv_1, gv_2, pv_i, pv_r, pv_n, pv_q, pk_0, pk_2, pk_2n, pk_2q, pk_10, pk_11, rok_i, rok_z0, rok_z1, ex_eq, ex_z, ex_z2, ex_cz, List.filter_cons, List.filter_nil, List.take_succ_cons, List.take_zero, List.drop_succ_cons, List.drop_zero, List.reverse_cons, List.reverse_nil, List.nil_append, List.cons_append, List.append_nil, List.length_cons, List.length_nil, List.map_cons, List.map_nil, List.sum_cons, List.sum_nil, Bool.not_true, Bool.not_false, Bool.and_true, Bool.true_and, Bool.and_false, Bool.false_and, Bool.or_false, Bool.false_or, Bool.true_or, Bool.or_true, beq_self_eq_true, Nat.reduceBEq, Nat.reduceAdd, Nat.reduceSub, Nat.reduceLT, Nat.reduceLeDiff, Nat.reduceEqDiff, Int.reduceAdd, Int.reduceNeg, Int.reduceToNat, Int.reduceLE, Int.reduceNatCast, Int.reduceNatCast', ite_true, ite_false, if_true, if_false, reduceIte, true_and, and_true, false_and, and_false, true_or, or_true, false_or, or_false, Nat.sub_zero, Nat.le_refl, Bool.false_eq_true, Bool.true_eq_false, false_implies, true_implies, implies_true, not_true_eq_false, not_false_eq_true, eq_self, Fin.isValue, Nat.zero_add, Nat.add_zero, and_self, ne_eq, b01, Int32.reduceLT, Int32.reduceLE, z32, z64, vl_0, tl_0, vl_1, tl_1, vl_2, tl_2, vl_3, tl_3, vl_4, tl_4, vl_5, tl_5, vl_6, tl_6, vl_7, tl_7, vl_8, tl_8, vl_9, tl_9, m_X7_sweeps, dX7_sweeps_0, dX7_sweeps_1, dX7_sweeps_2, dX7_sweeps_3, cl_6_217, dX7_sweeps_6, dX7_sweeps_7, ki_0, dX7_sweeps_8, dX7_sweeps_10, dX7_sweeps_11, dX7_sweeps_13, dX7_sweeps_15, dX7_sweeps_16, dX7_sweeps_19, dX7_sweeps_20, dX7_sweeps_22, cl_6_220, dX7_sweeps_25, dX7_sweeps_27, dX7_sweeps_29, dX7_sweeps_30, fl_6_28, dX7_sweeps_33, dX7_sweeps_35, dX7_sweeps_36, dX7_sweeps_38, dX7_sweeps_39, dX7_sweeps_40, dX7_sweeps_42, dX7_sweeps_43, dX7_sweeps_46, dX7_sweeps_48, dX7_sweeps_50, dX7_sweeps_51, dX7_sweeps_52, fl_6_7, dX7_sweeps_55, dX7_sweeps_57, dX7_sweeps_58, dX7_sweeps_60, dX7_sweeps_63, dX7_sweeps_65, M1]
        exact ⟨by rw [← hb]; rfl, S1, by rw [← ha]; exact R1⟩
      · cases u with
        | zero =>
          exfalso
          rcases hs with q | ⟨c, q1, q2⟩
          · omega
          · cases q1
        | succ v =>
          have hV : v < n := by omega
          have R := R1.2.1
          have W0 := W
          have W := W1
          have hv31 : v < 2 ^ 31 := by have := W.1; omega
          have hc : (nI v).toNatClampNeg = v := nI_clamp hv31
          have hin : vp_in (nI v) 10 := vp_in_nI (by have := W.1; omega) (by decide)
          have hm1 : ¬ nI v = -1 := i_nm1 hv31
          obtain ⟨r0, r1, r2, r3, r4, r5, r6⟩ := R.2 v hV
          obtain ⟨w0, w1, w2, w2b, w3, w4, w5, w6⟩ := W.2 v hV
          rw [s_fl_s W1 hV, show s_pre st (v :: s_fl B1 (B1 v 0)) = if v + 1 = st then [] else v :: s_pre st (s_fl B1 (B1 v 0)) from rfl, if_neg hz] at ha hb
          have ne : ¬ nI v = nI st - 1 := fun q => hz (e.mp (by rw [i_m1]; exact q))
          rw [i_m1]
          have lr := s_rem_le B1 v
          refine ax_wp_ok (cuts := [ 13]) 60 ?_
          simp only [lv_args, fn0, fn1, fn2, fn3, ax_wp_s, ax_step, ax_ins, ax_nx, ax_cut, ax_lk, ax_st1, ax_st2, ax_ins0, ax_tg, ax_go, ax_sw, ax_lsw, ax_kc_s, ax_kc_n, ax_rf_rf, ax_isR_rf, ct_int, ct_long, ct_ref, ct_null, ct_rf, rf_ref, rf_null, isR_ref, isR_null, va_rf_s, va_rf_n, gv_0, gv_1, gv_2, pv_i, pv_r, pv_n, pv_q, pk_0, pk_2, pk_2n, pk_2q, pk_10, pk_11, rok_i, rok_z0, rok_z1, ex_eq, ex_z, ex_z2, ex_cz, List.filter_cons, List.filter_nil, List.take_succ_cons, List.take_zero, List.drop_succ_cons, List.drop_zero, List.reverse_cons, List.reverse_nil, List.nil_append, List.cons_append, List.append_nil, List.length_cons, List.length_nil, List.map_cons, List.map_nil, List.sum_cons, List.sum_nil, Bool.not_true, Bool.not_false, Bool.and_true, Bool.true_and, Bool.and_false, Bool.false_and, Bool.or_false, Bool.false_or, Bool.true_or, Bool.or_true, beq_self_eq_true, Nat.reduceBEq, Nat.reduceAdd, Nat.reduceSub, Nat.reduceLT, Nat.reduceLeDiff, Nat.reduceEqDiff, Int.reduceAdd, Int.reduceNeg, Int.reduceToNat, Int.reduceLE, Int.reduceNatCast, Int.reduceNatCast', ite_true, ite_false, if_true, if_false, reduceIte, true_and, and_true, false_and, and_false, true_or, or_true, false_or, or_false, Nat.sub_zero, Nat.le_refl, Bool.false_eq_true, Bool.true_eq_false, false_implies, true_implies, implies_true, not_true_eq_false, not_false_eq_true, eq_self, Fin.isValue, Nat.zero_add, Nat.add_zero, and_self, ne_eq, b01, Int32.reduceLT, Int32.reduceLE, z32, z64, vl_0, tl_0, vl_1, tl_1, vl_2, tl_2, vl_3, tl_3, vl_4, tl_4, vl_5, tl_5, vl_6, tl_6, vl_7, tl_7, vl_8, tl_8, vl_9, tl_9, m_X7_sweeps, dX7_sweeps_0, dX7_sweeps_1, dX7_sweeps_2, dX7_sweeps_3, cl_6_217, dX7_sweeps_6, dX7_sweeps_7, ki_0, dX7_sweeps_8, dX7_sweeps_10, dX7_sweeps_11, dX7_sweeps_13, dX7_sweeps_15, dX7_sweeps_16, dX7_sweeps_19, dX7_sweeps_20, dX7_sweeps_22, cl_6_220, dX7_sweeps_25, dX7_sweeps_27, dX7_sweeps_29, dX7_sweeps_30, fl_6_28, dX7_sweeps_33, dX7_sweeps_35, dX7_sweeps_36, dX7_sweeps_38, dX7_sweeps_39, dX7_sweeps_40, dX7_sweeps_42, dX7_sweeps_43, dX7_sweeps_46, dX7_sweeps_48, dX7_sweeps_50, dX7_sweeps_51, dX7_sweeps_52, fl_6_7, dX7_sweeps_55, dX7_sweeps_57, dX7_sweeps_58, dX7_sweeps_60, dX7_sweeps_63, dX7_sweeps_65, M1, hc, hin, ne]
          refine ax_pu (c_X7_remains R1.1 W1 R1.2.1 hV) (by decide) ?_
          have em : nI w + (nI (B1 v 6) - nI (s_rem B1 v)) = nI (w + (B1 v 6 - s_rem B1 v)) := by rw [pk_sub lr, nI_add]
          simp only [lv_args, fn0, fn1, fn2, fn3, ax_wp_s, ax_step, ax_ins, ax_nx, ax_cut, ax_lk, ax_st1, ax_st2, ax_ins0, ax_tg, ax_go, ax_sw, ax_lsw, ax_kc_s, ax_kc_n, ax_rf_rf, ax_isR_rf, ct_int, ct_long, ct_ref, ct_null, ct_rf, rf_ref, rf_null, isR_ref, isR_null, va_rf_s, va_rf_n, gv_0, gv_1, gv_2, pv_i, pv_r, pv_n, pv_q, pk_0, pk_2, pk_2n, pk_2q, pk_10, pk_11, rok_i, rok_z0, rok_z1, ex_eq, ex_z, ex_z2, ex_cz, List.filter_cons, List.filter_nil, List.take_succ_cons, List.take_zero, List.drop_succ_cons, List.drop_zero, List.reverse_cons, List.reverse_nil, List.nil_append, List.cons_append, List.append_nil, List.length_cons, List.length_nil, List.map_cons, List.map_nil, List.sum_cons, List.sum_nil, Bool.not_true, Bool.not_false, Bool.and_true, Bool.true_and, Bool.and_false, Bool.false_and, Bool.or_false, Bool.false_or, Bool.true_or, Bool.or_true, beq_self_eq_true, Nat.reduceBEq, Nat.reduceAdd, Nat.reduceSub, Nat.reduceLT, Nat.reduceLeDiff, Nat.reduceEqDiff, Int.reduceAdd, Int.reduceNeg, Int.reduceToNat, Int.reduceLE, Int.reduceNatCast, Int.reduceNatCast', ite_true, ite_false, if_true, if_false, reduceIte, true_and, and_true, false_and, and_false, true_or, or_true, false_or, or_false, Nat.sub_zero, Nat.le_refl, Bool.false_eq_true, Bool.true_eq_false, false_implies, true_implies, implies_true, not_true_eq_false, not_false_eq_true, eq_self, Fin.isValue, Nat.zero_add, Nat.add_zero, and_self, ne_eq, b01, Int32.reduceLT, Int32.reduceLE, z32, z64, vl_0, tl_0, vl_1, tl_1, vl_2, tl_2, vl_3, tl_3, vl_4, tl_4, vl_5, tl_5, vl_6, tl_6, vl_7, tl_7, vl_8, tl_8, vl_9, tl_9, m_X7_sweeps, dX7_sweeps_0, dX7_sweeps_1, dX7_sweeps_2, dX7_sweeps_3, cl_6_217, dX7_sweeps_6, dX7_sweeps_7, ki_0, dX7_sweeps_8, dX7_sweeps_10, dX7_sweeps_11, dX7_sweeps_13, dX7_sweeps_15, dX7_sweeps_16, dX7_sweeps_19, dX7_sweeps_20, dX7_sweeps_22, cl_6_220, dX7_sweeps_25, dX7_sweeps_27, dX7_sweeps_29, dX7_sweeps_30, fl_6_28, dX7_sweeps_33, dX7_sweeps_35, dX7_sweeps_36, dX7_sweeps_38, dX7_sweeps_39, dX7_sweeps_40, dX7_sweeps_42, dX7_sweeps_43, dX7_sweeps_46, dX7_sweeps_48, dX7_sweeps_50, dX7_sweeps_51, dX7_sweeps_52, fl_6_7, dX7_sweeps_55, dX7_sweeps_57, dX7_sweeps_58, dX7_sweeps_60, dX7_sweeps_63, dX7_sweeps_65, M1, hc, hin, r6, r0, em, setI_at, setI_1, setI_22]
          have R3 := RC_up6 R1 v (s_rem B1 v)
          refine ax_sub (fun q hq => ?_) (ih (B1 v 0) (by omega) (w + (B1 v 6 - s_rem B1 v)) _ _ (.int 0) (by omega) (WFB_up6 W1 (Nat.le_trans lr w6)) (Sm_st S1 (.head _)) R3 ?_ ?_ ?_)
          · simp at hq ⊢
            rcases hq with hq | hq | hq | hq | hq | hq <;> simp [hq]
          · rw [s_fl_up _ (by decide)]
            rcases hs with q | ⟨c, q1, q2⟩
            · exact Or.inl q
            · refine Or.inr ⟨c, ?_, q2⟩
              rw [s_fl_s W1 hV] at q1
              rcases List.mem_cons.mp q1 with rfl | q1
              · exact absurd q2.symm hz
              · exact q1
          · rw [s_fl_up _ (by decide), ← ha]
            rfl
          · rw [s_fl_up _ (by decide), ← hb]
            show _ = w + ((B1 v 6 - s_rem B1 v) + s_went (s_up B1 v 6 (s_rem B1 v)) (s_pre st (s_fl B1 (B1 v 0))))
            omega
  have M := R.1
  unfold TopM at M
  refine ax_intro 6 false cdX7_sweeps (by decide +kernel) (by decide +kernel) (by decide +kernel) (Nat.le_of_ble_eq_true rfl) ?_
  refine ax_wp_ok (cuts := [ 13]) 30 ?_
  simp only [lv_args, fn0, fn1, fn2, fn3, ax_wp_s, ax_step, ax_ins, ax_nx, ax_cut, ax_lk, ax_st1, ax_st2, ax_ins0, ax_tg, ax_go, ax_sw, ax_lsw, ax_kc_s, ax_kc_n, ax_rf_rf, ax_isR_rf, ct_int, ct_long, ct_ref, ct_null, ct_rf, rf_ref, rf_null, isR_ref, isR_null, va_rf_s, va_rf_n, gv_0, gv_1, gv_2, pv_i, pv_r, pv_n, pv_q, pk_0, pk_2, pk_2n, pk_2q, pk_10, pk_11, rok_i, rok_z0, rok_z1, ex_eq, ex_z, ex_z2, ex_cz, List.filter_cons, List.filter_nil, List.take_succ_cons, List.take_zero, List.drop_succ_cons, List.drop_zero, List.reverse_cons, List.reverse_nil, List.nil_append, List.cons_append, List.append_nil, List.length_cons, List.length_nil, List.map_cons, List.map_nil, List.sum_cons, List.sum_nil, Bool.not_true, Bool.not_false, Bool.and_true, Bool.true_and, Bool.and_false, Bool.false_and, Bool.or_false, Bool.false_or, Bool.true_or, Bool.or_true, beq_self_eq_true, Nat.reduceBEq, Nat.reduceAdd, Nat.reduceSub, Nat.reduceLT, Nat.reduceLeDiff, Nat.reduceEqDiff, Int.reduceAdd, Int.reduceNeg, Int.reduceToNat, Int.reduceLE, Int.reduceNatCast, Int.reduceNatCast', ite_true, ite_false, if_true, if_false, reduceIte, true_and, and_true, false_and, and_false, true_or, or_true, false_or, or_false, Nat.sub_zero, Nat.le_refl, Bool.false_eq_true, Bool.true_eq_false, false_implies, true_implies, implies_true, not_true_eq_false, not_false_eq_true, eq_self, Fin.isValue, Nat.zero_add, Nat.add_zero, and_self, ne_eq, b01, Int32.reduceLT, Int32.reduceLE, z32, z64, vl_0, tl_0, vl_1, tl_1, vl_2, tl_2, vl_3, tl_3, vl_4, tl_4, vl_5, tl_5, vl_6, tl_6, vl_7, tl_7, vl_8, tl_8, vl_9, tl_9, m_X7_sweeps, dX7_sweeps_0, dX7_sweeps_1, dX7_sweeps_2, dX7_sweeps_3, cl_6_217, dX7_sweeps_6, dX7_sweeps_7, ki_0, dX7_sweeps_8, dX7_sweeps_10, dX7_sweeps_11, dX7_sweeps_13, dX7_sweeps_15, dX7_sweeps_16, dX7_sweeps_19, dX7_sweeps_20, dX7_sweeps_22, cl_6_220, dX7_sweeps_25, dX7_sweeps_27, dX7_sweeps_29, dX7_sweeps_30, fl_6_28, dX7_sweeps_33, dX7_sweeps_35, dX7_sweeps_36, dX7_sweeps_38, dX7_sweeps_39, dX7_sweeps_40, dX7_sweeps_42, dX7_sweeps_43, dX7_sweeps_46, dX7_sweeps_48, dX7_sweeps_50, dX7_sweeps_51, dX7_sweeps_52, fl_6_7, dX7_sweeps_55, dX7_sweeps_57, dX7_sweeps_58, dX7_sweeps_60, dX7_sweeps_63, dX7_sweeps_65, M]
  refine ax_cv (c_X7_staysIn W R hk hf) (by decide) (fun h2 S2 => ?_)
  rw [hst]
  simp only [lv_args, fn0, fn1, fn2, fn3, ax_wp_s, ax_step, ax_ins, ax_nx, ax_cut, ax_lk, ax_st1, ax_st2, ax_ins0, ax_tg, ax_go, ax_sw, ax_lsw, ax_kc_s, ax_kc_n, ax_rf_rf, ax_isR_rf, ct_int, ct_long, ct_ref, ct_null, ct_rf, rf_ref, rf_null, isR_ref, isR_null, va_rf_s, va_rf_n, gv_0, gv_1, gv_2, pv_i, pv_r, pv_n, pv_q, pk_0, pk_2, pk_2n, pk_2q, pk_10, pk_11, rok_i, rok_z0, rok_z1, ex_eq, ex_z, ex_z2, ex_cz, List.filter_cons, List.filter_nil, List.take_succ_cons, List.take_zero, List.drop_succ_cons, List.drop_zero, List.reverse_cons, List.reverse_nil, List.nil_append, List.cons_append, List.append_nil, List.length_cons, List.length_nil, List.map_cons, List.map_nil, List.sum_cons, List.sum_nil, Bool.not_true, Bool.not_false, Bool.and_true, Bool.true_and, Bool.and_false, Bool.false_and, Bool.or_false, Bool.false_or, Bool.true_or, Bool.or_true, beq_self_eq_true, Nat.reduceBEq, Nat.reduceAdd, Nat.reduceSub, Nat.reduceLT, Nat.reduceLeDiff, Nat.reduceEqDiff, Int.reduceAdd, Int.reduceNeg, Int.reduceToNat, Int.reduceLE, Int.reduceNatCast, Int.reduceNatCast', ite_true, ite_false, if_true, if_false, reduceIte, true_and, and_true, false_and, and_false, true_or, or_true, false_or, or_false, Nat.sub_zero, Nat.le_refl, Bool.false_eq_true, Bool.true_eq_false, false_implies, true_implies, implies_true, not_true_eq_false, not_false_eq_true, eq_self, Fin.isValue, Nat.zero_add, Nat.add_zero, and_self, ne_eq, b01, Int32.reduceLT, Int32.reduceLE, z32, z64, vl_0, tl_0, vl_1, tl_1, vl_2, tl_2, vl_3, tl_3, vl_4, tl_4, vl_5, tl_5, vl_6, tl_6, vl_7, tl_7, vl_8, tl_8, vl_9, tl_9, m_X7_sweeps, dX7_sweeps_0, dX7_sweeps_1, dX7_sweeps_2, dX7_sweeps_3, cl_6_217, dX7_sweeps_6, dX7_sweeps_7, ki_0, dX7_sweeps_8, dX7_sweeps_10, dX7_sweeps_11, dX7_sweeps_13, dX7_sweeps_15, dX7_sweeps_16, dX7_sweeps_19, dX7_sweeps_20, dX7_sweeps_22, cl_6_220, dX7_sweeps_25, dX7_sweeps_27, dX7_sweeps_29, dX7_sweeps_30, fl_6_28, dX7_sweeps_33, dX7_sweeps_35, dX7_sweeps_36, dX7_sweeps_38, dX7_sweeps_39, dX7_sweeps_40, dX7_sweeps_42, dX7_sweeps_43, dX7_sweeps_46, dX7_sweeps_48, dX7_sweeps_50, dX7_sweeps_51, dX7_sweeps_52, fl_6_7, dX7_sweeps_55, dX7_sweeps_57, dX7_sweeps_58, dX7_sweeps_60, dX7_sweeps_63, dX7_sweeps_65]
  have := lp (k + 1) 0 B h2 (.int 0) (by omega) W.1 (Sm_mo S2 (by decide)) (RC_Sm S2 R (by decide)) hst2 (by unfold s_swB; rw [hst]) (by unfold s_swN; rw [hst]; omega)
  rw [i_m1] at this
  exact this
end MB2
