-- deps: 11 13 28 32 38 45 50 51 52 56 57 67 72 73 74 76 82 85 86 87 88
/-! the law: its loop, its start -/
section LLO
variable {G : AG} {n : Nat} {B : SB} {p : Nat → Nat} {T r : Nat} {X E : Nat → Nat → Nat} {tn : Nat} {tb : Nat → Nat} {z : SZ} {I : SI} {nx L : Nat} {xs : Nat → Int32} {h : AH} {rc rs i : Nat}
set_option maxRecDepth 100000 in
set_option maxHeartbeats 400000 in
theorem k_law_body {Q : Option Value → AH → Prop} (V : LIv n B p T r X E tn tb z I nx L xs h) (h7 : i + 7 ≤ L) (hL : L ≤ 3584) (hr1 : 10 ≤ rc) (hr2 : 120 ≤ rs) (fin : ∀ h2, LSt L xs h2 → AW G 8 4 false cL_law (some .boolean) 14 Q (rc - 10) (rs - 120) 1705 [(0, .ref 1), (1, .ref 10), (2, .ref 100), (3, .int (nI i))] [] h2) : AW G 8 4 false cL_law (some .boolean) 14 Q rc rs 27 [(0, .ref 1), (1, .ref 10), (2, .ref 100), (3, .int (nI i))] [] h := by
  have IX := s_idx h7 hL
  have s1 := V.2.2.2.1
  have s2 := V.2.2.2.2
  have f0 := AW_le (rc := rc) (rs := rs) (by omega) (by omega) (fin h ⟨n, B, p, T, r, X, E, tn, tb, z, I, nx, V⟩)
  have k0 := k_law_0 V h7 hL hr1 hr2 fin
  have k1 := k_law_1 V h7 hL hr1 hr2 fin
  have k2 := k_law_2 V h7 hL hr1 hr2 fin
  have k3 := k_law_3 V h7 hL hr1 hr2 fin
  have k4 := k_law_4 V h7 hL hr1 hr2 fin
  have k5 := k_law_5 V h7 hL hr1 hr2 fin
  have k6 := k_law_6 V h7 hL hr1 hr2 fin
  have k7 := k_law_7 V h7 hL hr1 hr2 fin
  have k8 := k_law_8 V h7 hL hr1 hr2 fin
  have k9 := k_law_9 V h7 hL hr1 hr2 fin
  have k10 := k_law_10 V h7 hL hr1 hr2 fin
  have k11 := k_law_11 V h7 hL hr1 hr2 fin
  have k12 := k_law_12 V h7 hL hr1 hr2 fin
  have k13 := k_law_13 V h7 hL hr1 hr2 fin
  have k14 := k_law_14 V h7 hL hr1 hr2 fin
  have k15 := k_law_15 V h7 hL hr1 hr2 fin
  have k16 := k_law_16 V h7 hL hr1 hr2 fin
  have k17 := k_law_17 V h7 hL hr1 hr2 fin
  have k18 := k_law_18 V h7 hL hr1 hr2 fin
  have k19 := k_law_19 V h7 hL hr1 hr2 fin
  have k20 := k_law_20 V h7 hL hr1 hr2 fin
  have k21 := k_law_21 V h7 hL hr1 hr2 fin
  have k22 := k_law_22 V h7 hL hr1 hr2 fin
  have k23 := k_law_23 V h7 hL hr1 hr2 fin
  have k24 := k_law_24 V h7 hL hr1 hr2 fin
  have k25 := k_law_25 V h7 hL hr1 hr2 fin
  have k26 := k_law_26 V h7 hL hr1 hr2 fin
  have k27 := k_law_27 V h7 hL hr1 hr2 fin
  have k28 := k_law_28 V h7 hL hr1 hr2 fin
  have k29 := k_law_29 V h7 hL hr1 hr2 fin
  have k30 := k_law_30 V h7 hL hr1 hr2 fin
  have k31 := k_law_31 V h7 hL hr1 hr2 fin
  have k32 := k_law_32 V h7 hL hr1 hr2 fin
  have k33 := k_law_33 V h7 hL hr1 hr2 fin
  have k34 := k_law_34 V h7 hL hr1 hr2 fin
  have k35 := k_law_35 V h7 hL hr1 hr2 fin
  have k36 := k_law_36 V h7 hL hr1 hr2 fin
  have k37 := k_law_37 V h7 hL hr1 hr2 fin
  have k38 := k_law_38 V h7 hL hr1 hr2 fin
  refine ax_wq_ok (cuts := [ 1705, 204, 227, 302, 315, 338, 391, 444, 487, 520, 553, 576, 609, 642, 685, 728, 761, 784, 827, 870, 903, 926, 970, 1013, 1066, 1109, 1152, 1185, 1208, 1241, 1284, 1327, 1380, 1444, 1457, 1470, 1513, 1556, 1619, 1672]) 30 ?_
  (simp only [lv_args, fn0, fn1, fn2, fn3, ax_wq_s, ax_step2, ax_ins2_u, ax_ins, ax_nx, ax_cut, ax_lk, ax_st1, ax_st2, ax_ins0, ax_tg, ax_go, ax_sw2, ax_lsw2, ax_kc_s, ax_kc_n, ax_rf_rf, ax_isR_rf, ct_int, ct_long, ct_ref, ct_null, ct_rf, rf_ref, rf_null, isR_ref, isR_null, va_rf_s, va_rf_n, gv_0, gv_1, gv_2, pv_i, pv_r, pv_n, pv_q, pk_0, pk_2, pk_2n, pk_2q, pk_10, pk_11, rok_i, rok_z0, rok_z1, ex_eq, ex_z, ex_z2, ex_cz, List.filter_cons, List.filter_nil, List.take_succ_cons, List.take_zero, List.drop_succ_cons, List.drop_zero, List.reverse_cons, List.reverse_nil, List.nil_append, List.cons_append, List.append_nil, List.length_cons, List.length_nil, List.map_cons, List.map_nil, List.sum_cons, List.sum_nil, Bool.not_true, Bool.not_false, Bool.and_true, Bool.true_and, Bool.and_false, Bool.false_and, Bool.or_false, Bool.false_or, Bool.true_or, Bool.or_true, beq_self_eq_true, Nat.reduceBEq, Nat.reduceAdd, Nat.reduceSub, Nat.reduceLT, Nat.reduceLeDiff, Nat.reduceEqDiff, Int.reduceAdd, Int.reduceNeg, Int.reduceToNat, Int.reduceLE, Int.reduceNatCast, Int.reduceNatCast', ↓reduceIte, if_true, if_false, true_and, and_true, false_and, and_false, true_or, or_true, false_or, or_false, Nat.sub_zero, Nat.le_refl, Bool.false_eq_true, Bool.true_eq_false, false_implies, true_implies, implies_true, not_true_eq_false, not_false_eq_true, eq_self, Fin.isValue, Nat.zero_add, Nat.add_zero, and_self, ne_eq, b01, Int32.reduceLT, Int32.reduceLE, z32, z64, vl_0, tl_0, vl_1, tl_1, vl_2, tl_2, vl_3, tl_3, vl_4, tl_4, vl_5, tl_5, vl_6, tl_6, vl_7, tl_7, vl_8, tl_8, vl_9, tl_9, Int.reduceSub, Int.reduceEq, Int.reduceLT, reduceCtorEq, ro_obj, dL_law_27, dL_law_28, dL_law_29, dL_law_30, kb_63, dL_law_32, dL_law_33, s1, s2, IX]; try simp only [ax_ife, if_true, if_false, true_implies, implies_true, false_implies, and_true, true_and, not_true_eq_false, not_false_eq_true])
  (repeat' (with_reducible (first | apply And.intro | intro _)))
  all_goals (with_reducible (first | exact f0 | exact k0 | exact k1 | exact k2 | exact k3 | exact k4 | exact k5 | exact k6 | exact k7 | exact k8 | exact k9 | exact k10 | exact k11 | exact k12 | exact k13 | exact k14 | exact k15 | exact k16 | exact k17 | exact k18 | exact k19 | exact k20 | exact k21 | exact k22 | exact k23 | exact k24 | exact k25 | exact k26 | exact k27 | exact k28 | exact k29 | exact k30 | exact k31 | exact k32 | exact k33 | exact k34 | exact k35 | exact k36 | exact k37 | exact k38))
set_option maxRecDepth 100000 in
set_option maxHeartbeats 400000 in
theorem k_law_loop (hL : L ≤ 3584) : ∀ (m i rc rs : Nat) (h : AH), i ≤ 3600 → L + 7 ≤ i + 7 * m → 10 * m ≤ rc → 120 * m ≤ rs → LSt L xs h → AW G 8 4 false cL_law (some .boolean) 14 (fun v _ => v = some (.int 1)) rc rs 18 [(0, .ref 1), (1, .ref 10), (2, .ref 100), (3, .int (nI i))] [] h := by
  intro m
  have out : ∀ (i rc rs : Nat) (h : AH), i ≤ 3600 → L < i + 7 → LSt L xs h → AW G 8 4 false cL_law (some .boolean) 14 (fun v _ => v = some (.int 1)) rc rs 18 [(0, .ref 1), (1, .ref 10), (2, .ref 100), (3, .int (nI i))] [] h := fun i rc rs h hi hlt V => by
    obtain ⟨n, B, p, T, r, X, E, tn, tb, z, I, nx, V⟩ := V
    have s1 := V.2.2.2.1
    have gt : (Int32.ofNat L - 7 < nI i) = True := eq_true (by
      rw [i_lt]
      have e : (nI L - nI 7).toInt = (L : Int) - (7 : Nat) := pk_sub_toInt (by omega) (by decide)
      have e2 : (nI i).toInt = (i : Int) := i_n (by omega)
      have e' : (Int32.ofNat L - 7).toInt = (L : Int) - (7 : Nat) := e
      rw [e', e2]
      omega)
    refine ax_wq_ok (cuts := [ 27, 1711]) 20 ?_
    (simp only [lv_args, fn0, fn1, fn2, fn3, ax_wq_s, ax_step2, ax_ins2_u, ax_ins, ax_nx, ax_cut, ax_lk, ax_st1, ax_st2, ax_ins0, ax_tg, ax_go, ax_sw2, ax_lsw2, ax_kc_s, ax_kc_n, ax_rf_rf, ax_isR_rf, ct_int, ct_long, ct_ref, ct_null, ct_rf, rf_ref, rf_null, isR_ref, isR_null, va_rf_s, va_rf_n, gv_0, gv_1, gv_2, pv_i, pv_r, pv_n, pv_q, pk_0, pk_2, pk_2n, pk_2q, pk_10, pk_11, rok_i, rok_z0, rok_z1, ex_eq, ex_z, ex_z2, ex_cz, List.filter_cons, List.filter_nil, List.take_succ_cons, List.take_zero, List.drop_succ_cons, List.drop_zero, List.reverse_cons, List.reverse_nil, List.nil_append, List.cons_append, List.append_nil, List.length_cons, List.length_nil, List.map_cons, List.map_nil, List.sum_cons, List.sum_nil, Bool.not_true, Bool.not_false, Bool.and_true, Bool.true_and, Bool.and_false, Bool.false_and, Bool.or_false, Bool.false_or, Bool.true_or, Bool.or_true, beq_self_eq_true, Nat.reduceBEq, Nat.reduceAdd, Nat.reduceSub, Nat.reduceLT, Nat.reduceLeDiff, Nat.reduceEqDiff, Int.reduceAdd, Int.reduceNeg, Int.reduceToNat, Int.reduceLE, Int.reduceNatCast, Int.reduceNatCast', ↓reduceIte, if_true, if_false, true_and, and_true, false_and, and_false, true_or, or_true, false_or, or_false, Nat.sub_zero, Nat.le_refl, Bool.false_eq_true, Bool.true_eq_false, false_implies, true_implies, implies_true, not_true_eq_false, not_false_eq_true, eq_self, Fin.isValue, Nat.zero_add, Nat.add_zero, and_self, ne_eq, b01, Int32.reduceLT, Int32.reduceLE, z32, z64, vl_0, tl_0, vl_1, tl_1, vl_2, tl_2, vl_3, tl_3, vl_4, tl_4, vl_5, tl_5, vl_6, tl_6, vl_7, tl_7, vl_8, tl_8, vl_9, tl_9, Int.reduceSub, Int.reduceEq, Int.reduceLT, reduceCtorEq, ro_obj, dL_law_18, dL_law_19, dL_law_20, dL_law_21, kb_7, dL_law_23, dL_law_24, s1, gt]; try simp only [ax_ife, if_true, if_false, true_implies, implies_true, false_implies, and_true, true_and, not_true_eq_false, not_false_eq_true])
    refine ax_wq_ok (cuts := []) 6 ?_
    (simp only [lv_args, fn0, fn1, fn2, fn3, ax_wq_s, ax_step2, ax_ins2_u, ax_ins, ax_nx, ax_cut, ax_lk, ax_st1, ax_st2, ax_ins0, ax_tg, ax_go, ax_sw2, ax_lsw2, ax_kc_s, ax_kc_n, ax_rf_rf, ax_isR_rf, ct_int, ct_long, ct_ref, ct_null, ct_rf, rf_ref, rf_null, isR_ref, isR_null, va_rf_s, va_rf_n, gv_0, gv_1, gv_2, pv_i, pv_r, pv_n, pv_q, pk_0, pk_2, pk_2n, pk_2q, pk_10, pk_11, rok_i, rok_z0, rok_z1, ex_eq, ex_z, ex_z2, ex_cz, List.filter_cons, List.filter_nil, List.take_succ_cons, List.take_zero, List.drop_succ_cons, List.drop_zero, List.reverse_cons, List.reverse_nil, List.nil_append, List.cons_append, List.append_nil, List.length_cons, List.length_nil, List.map_cons, List.map_nil, List.sum_cons, List.sum_nil, Bool.not_true, Bool.not_false, Bool.and_true, Bool.true_and, Bool.and_false, Bool.false_and, Bool.or_false, Bool.false_or, Bool.true_or, Bool.or_true, beq_self_eq_true, Nat.reduceBEq, Nat.reduceAdd, Nat.reduceSub, Nat.reduceLT, Nat.reduceLeDiff, Nat.reduceEqDiff, Int.reduceAdd, Int.reduceNeg, Int.reduceToNat, Int.reduceLE, Int.reduceNatCast, Int.reduceNatCast', ↓reduceIte, if_true, if_false, true_and, and_true, false_and, and_false, true_or, or_true, false_or, or_false, Nat.sub_zero, Nat.le_refl, Bool.false_eq_true, Bool.true_eq_false, false_implies, true_implies, implies_true, not_true_eq_false, not_false_eq_true, eq_self, Fin.isValue, Nat.zero_add, Nat.add_zero, and_self, ne_eq, b01, Int32.reduceLT, Int32.reduceLE, z32, z64, vl_0, tl_0, vl_1, tl_1, vl_2, tl_2, vl_3, tl_3, vl_4, tl_4, vl_5, tl_5, vl_6, tl_6, vl_7, tl_7, vl_8, tl_8, vl_9, tl_9, Int.reduceSub, Int.reduceEq, Int.reduceLT, reduceCtorEq, ro_obj, dL_law_1711, ki_1, dL_law_1712]; try simp only [ax_ife, if_true, if_false, true_implies, implies_true, false_implies, and_true, true_and, not_true_eq_false, not_false_eq_true])
  induction m with
  | zero =>
    intro i rc rs h hi hm _ _ V
    exact out i rc rs h hi (by omega) V
  | succ m ih =>
    intro i rc rs h hi hm hr1 hr2 V
    by_cases hc : i + 7 ≤ L
    · obtain ⟨n, B, p, T, r, X, E, tn, tb, z, I, nx, V⟩ := V
      have s1 := V.2.2.2.1
      have gt : (Int32.ofNat L - 7 < nI i) = False := eq_false (by
        rw [i_lt]
        have e : (nI L - nI 7).toInt = (L : Int) - (7 : Nat) := pk_sub_toInt (by omega) (by decide)
        have e2 : (nI i).toInt = (i : Int) := i_n (by omega)
        have e' : (Int32.ofNat L - 7).toInt = (L : Int) - (7 : Nat) := e
        rw [e', e2]
        omega)
      have e7 : nI i + 7 = nI (i + 7) := by rw [show (7 : Int32) = nI 7 from rfl, nI_add]
      have g : AW G 8 4 false cL_law (some .boolean) 14 (fun v _ => v = some (.int 1)) rc rs 27 [(0, .ref 1), (1, .ref 10), (2, .ref 100), (3, .int (nI i))] [] h := k_law_body V hc hL (by omega) (by omega) (fun h2 V2 => by
        have g2 := ih (i + 7) (rc - 10) (rs - 120) h2 (by omega) (by omega) (by omega) (by omega) V2
        refine ax_wq_ok (cuts := [ 18]) 10 ?_
        (simp only [lv_args, fn0, fn1, fn2, fn3, ax_wq_s, ax_step2, ax_ins2_u, ax_ins, ax_nx, ax_cut, ax_lk, ax_st1, ax_st2, ax_ins0, ax_tg, ax_go, ax_sw2, ax_lsw2, ax_kc_s, ax_kc_n, ax_rf_rf, ax_isR_rf, ct_int, ct_long, ct_ref, ct_null, ct_rf, rf_ref, rf_null, isR_ref, isR_null, va_rf_s, va_rf_n, gv_0, gv_1, gv_2, pv_i, pv_r, pv_n, pv_q, pk_0, pk_2, pk_2n, pk_2q, pk_10, pk_11, rok_i, rok_z0, rok_z1, ex_eq, ex_z, ex_z2, ex_cz, List.filter_cons, List.filter_nil, List.take_succ_cons, List.take_zero, List.drop_succ_cons, List.drop_zero, List.reverse_cons, List.reverse_nil, List.nil_append, List.cons_append, List.append_nil, List.length_cons, List.length_nil, List.map_cons, List.map_nil, List.sum_cons, List.sum_nil, Bool.not_true, Bool.not_false, Bool.and_true, Bool.true_and, Bool.and_false, Bool.false_and, Bool.or_false, Bool.false_or, Bool.true_or, Bool.or_true, beq_self_eq_true, Nat.reduceBEq, Nat.reduceAdd, Nat.reduceSub, Nat.reduceLT, Nat.reduceLeDiff, Nat.reduceEqDiff, Int.reduceAdd, Int.reduceNeg, Int.reduceToNat, Int.reduceLE, Int.reduceNatCast, Int.reduceNatCast', ↓reduceIte, if_true, if_false, true_and, and_true, false_and, and_false, true_or, or_true, false_or, or_false, Nat.sub_zero, Nat.le_refl, Bool.false_eq_true, Bool.true_eq_false, false_implies, true_implies, implies_true, not_true_eq_false, not_false_eq_true, eq_self, Fin.isValue, Nat.zero_add, Nat.add_zero, and_self, ne_eq, b01, Int32.reduceLT, Int32.reduceLE, z32, z64, vl_0, tl_0, vl_1, tl_1, vl_2, tl_2, vl_3, tl_3, vl_4, tl_4, vl_5, tl_5, vl_6, tl_6, vl_7, tl_7, vl_8, tl_8, vl_9, tl_9, Int.reduceSub, Int.reduceEq, Int.reduceLT, reduceCtorEq, ro_obj, dL_law_1705, ki_7, dL_law_1708, e7]; try simp only [ax_ife, if_true, if_false, true_implies, implies_true, false_implies, and_true, true_and, not_true_eq_false, not_false_eq_true])
        exact g2)
      refine ax_wq_ok (cuts := [ 27, 1711]) 20 ?_
      (simp only [lv_args, fn0, fn1, fn2, fn3, ax_wq_s, ax_step2, ax_ins2_u, ax_ins, ax_nx, ax_cut, ax_lk, ax_st1, ax_st2, ax_ins0, ax_tg, ax_go, ax_sw2, ax_lsw2, ax_kc_s, ax_kc_n, ax_rf_rf, ax_isR_rf, ct_int, ct_long, ct_ref, ct_null, ct_rf, rf_ref, rf_null, isR_ref, isR_null, va_rf_s, va_rf_n, gv_0, gv_1, gv_2, pv_i, pv_r, pv_n, pv_q, pk_0, pk_2, pk_2n, pk_2q, pk_10, pk_11, rok_i, rok_z0, rok_z1, ex_eq, ex_z, ex_z2, ex_cz, List.filter_cons, List.filter_nil, List.take_succ_cons, List.take_zero, List.drop_succ_cons, List.drop_zero, List.reverse_cons, List.reverse_nil, List.nil_append, List.cons_append, List.append_nil, List.length_cons, List.length_nil, List.map_cons, List.map_nil, List.sum_cons, List.sum_nil, Bool.not_true, Bool.not_false, Bool.and_true, Bool.true_and, Bool.and_false, Bool.false_and, Bool.or_false, Bool.false_or, Bool.true_or, Bool.or_true, beq_self_eq_true, Nat.reduceBEq, Nat.reduceAdd, Nat.reduceSub, Nat.reduceLT, Nat.reduceLeDiff, Nat.reduceEqDiff, Int.reduceAdd, Int.reduceNeg, Int.reduceToNat, Int.reduceLE, Int.reduceNatCast, Int.reduceNatCast', ↓reduceIte, if_true, if_false, true_and, and_true, false_and, and_false, true_or, or_true, false_or, or_false, Nat.sub_zero, Nat.le_refl, Bool.false_eq_true, Bool.true_eq_false, false_implies, true_implies, implies_true, not_true_eq_false, not_false_eq_true, eq_self, Fin.isValue, Nat.zero_add, Nat.add_zero, and_self, ne_eq, b01, Int32.reduceLT, Int32.reduceLE, z32, z64, vl_0, tl_0, vl_1, tl_1, vl_2, tl_2, vl_3, tl_3, vl_4, tl_4, vl_5, tl_5, vl_6, tl_6, vl_7, tl_7, vl_8, tl_8, vl_9, tl_9, Int.reduceSub, Int.reduceEq, Int.reduceLT, reduceCtorEq, ro_obj, dL_law_18, dL_law_19, dL_law_20, dL_law_21, kb_7, dL_law_23, dL_law_24, s1, gt]; try simp only [ax_ife, if_true, if_false, true_implies, implies_true, false_implies, and_true, true_and, not_true_eq_false, not_false_eq_true])
      exact g
    · exact out i rc rs h hi (by omega) V
theorem WSZ_z0 : WSZ s_z0 := fun i _ => ⟨Nat.zero_le _, Or.inl rfl, fun _ => rfl⟩
set_option maxRecDepth 100000 in
set_option maxHeartbeats 400000 in
theorem k_law_start (hL : L ≤ 3584) (s1 : h.1 1 = some (49, L)) (sx : ∀ k, h.2.1 1 k = xs k) (s2 : h.1 2 = some (60, 0)) (s3 : h.1 3 = some (60, 1)) (no : ∀ b, 10 ≤ b → h.1 b = none) : AW G 8 4 false cL_law (some .boolean) 14 (fun v _ => v = some (.int 1)) 5202 66792 0 [(0, .ref 1)] [] h := by
  have n10 := no 10 (by decide)
  refine ax_wq_ok (cuts := [ 3]) 30 ?_
  (simp only [lv_args, fn0, fn1, fn2, fn3, ax_wq_s, ax_step2, ax_ins2_u, ax_ins, ax_nx, ax_cut, ax_lk, ax_st1, ax_st2, ax_ins0, ax_tg, ax_go, ax_sw2, ax_lsw2, ax_kc_s, ax_kc_n, ax_rf_rf, ax_isR_rf, ct_int, ct_long, ct_ref, ct_null, ct_rf, rf_ref, rf_null, isR_ref, isR_null, va_rf_s, va_rf_n, gv_0, gv_1, gv_2, pv_i, pv_r, pv_n, pv_q, pk_0, pk_2, pk_2n, pk_2q, pk_10, pk_11, rok_i, rok_z0, rok_z1, ex_eq, ex_z, ex_z2, ex_cz, List.filter_cons, List.filter_nil, List.take_succ_cons, List.take_zero, List.drop_succ_cons, List.drop_zero, List.reverse_cons, List.reverse_nil, List.nil_append, List.cons_append, List.append_nil, List.length_cons, List.length_nil, List.map_cons, List.map_nil, List.sum_cons, List.sum_nil, Bool.not_true, Bool.not_false, Bool.and_true, Bool.true_and, Bool.and_false, Bool.false_and, Bool.or_false, Bool.false_or, Bool.true_or, Bool.or_true, beq_self_eq_true, Nat.reduceBEq, Nat.reduceAdd, Nat.reduceSub, Nat.reduceLT, Nat.reduceLeDiff, Nat.reduceEqDiff, Int.reduceAdd, Int.reduceNeg, Int.reduceToNat, Int.reduceLE, Int.reduceNatCast, Int.reduceNatCast', ↓reduceIte, if_true, if_false, true_and, and_true, false_and, and_false, true_or, or_true, false_or, or_false, Nat.sub_zero, Nat.le_refl, Bool.false_eq_true, Bool.true_eq_false, false_implies, true_implies, implies_true, not_true_eq_false, not_false_eq_true, eq_self, Fin.isValue, Nat.zero_add, Nat.add_zero, and_self, ne_eq, b01, Int32.reduceLT, Int32.reduceLE, z32, z64, vl_0, tl_0, vl_1, tl_1, vl_2, tl_2, vl_3, tl_3, vl_4, tl_4, vl_5, tl_5, vl_6, tl_6, vl_7, tl_7, vl_8, tl_8, vl_9, tl_9, Int.reduceSub, Int.reduceEq, Int.reduceLT, reduceCtorEq, ro_obj, dL_law_0, kl_8_7, aN_5]; try simp only [ax_ife, if_true, if_false, true_implies, implies_true, false_implies, and_true, true_and, not_true_eq_false, not_false_eq_true])
  refine ⟨10, n10, ?_⟩
  have O1 := OU_new h 10 (5, 0)
  have x0 : (ax_new h 10 (5, 0)).1 10 = some (5, 0) := by rw [new_1, if_pos rfl]
  generalize ax_new h 10 (5, 0) = h1 at O1 x0 ⊢
  have ci := c_X6_init (G := G) (h := h1) (tb := s_lw) (p := fun _ => 0) x0 (fun b b1 b2 => by rw [(O1 b (by omega)).1]; exact no b (by omega)) (by rw [(O1 2 (by omega)).1]; exact s2) (by rw [(O1 3 (by omega)).1]; exact s3)
  refine ax_wq_ok (cuts := [ 11]) 30 ?_
  (simp only [lv_args, fn0, fn1, fn2, fn3, ax_wq_s, ax_step2, ax_ins2_u, ax_ins, ax_nx, ax_cut, ax_lk, ax_st1, ax_st2, ax_ins0, ax_tg, ax_go, ax_sw2, ax_lsw2, ax_kc_s, ax_kc_n, ax_rf_rf, ax_isR_rf, ct_int, ct_long, ct_ref, ct_null, ct_rf, rf_ref, rf_null, isR_ref, isR_null, va_rf_s, va_rf_n, gv_0, gv_1, gv_2, pv_i, pv_r, pv_n, pv_q, pk_0, pk_2, pk_2n, pk_2q, pk_10, pk_11, rok_i, rok_z0, rok_z1, ex_eq, ex_z, ex_z2, ex_cz, List.filter_cons, List.filter_nil, List.take_succ_cons, List.take_zero, List.drop_succ_cons, List.drop_zero, List.reverse_cons, List.reverse_nil, List.nil_append, List.cons_append, List.append_nil, List.length_cons, List.length_nil, List.map_cons, List.map_nil, List.sum_cons, List.sum_nil, Bool.not_true, Bool.not_false, Bool.and_true, Bool.true_and, Bool.and_false, Bool.false_and, Bool.or_false, Bool.false_or, Bool.true_or, Bool.or_true, beq_self_eq_true, Nat.reduceBEq, Nat.reduceAdd, Nat.reduceSub, Nat.reduceLT, Nat.reduceLeDiff, Nat.reduceEqDiff, Int.reduceAdd, Int.reduceNeg, Int.reduceToNat, Int.reduceLE, Int.reduceNatCast, Int.reduceNatCast', ↓reduceIte, if_true, if_false, true_and, and_true, false_and, and_false, true_or, or_true, false_or, or_false, Nat.sub_zero, Nat.le_refl, Bool.false_eq_true, Bool.true_eq_false, false_implies, true_implies, implies_true, not_true_eq_false, not_false_eq_true, eq_self, Fin.isValue, Nat.zero_add, Nat.add_zero, and_self, ne_eq, b01, Int32.reduceLT, Int32.reduceLE, z32, z64, vl_0, tl_0, vl_1, tl_1, vl_2, tl_2, vl_3, tl_3, vl_4, tl_4, vl_5, tl_5, vl_6, tl_6, vl_7, tl_7, vl_8, tl_8, vl_9, tl_9, Int.reduceSub, Int.reduceEq, Int.reduceLT, reduceCtorEq, ro_obj, dL_law_3, dL_law_4, cl_8_9, x0]; try simp only [ax_ife, if_true, if_false, true_implies, implies_true, false_implies, and_true, true_and, not_true_eq_false, not_false_eq_true])
  refine ax_c0B ci (by decide) (by omega) (by omega) (fun h2 ⟨O2, c1, c2, c3, c4, c5⟩ => ?_)
  have OA : OU (fun b => 10 ≤ b ∧ b < 100) h h2 := OU_tr (OU_mo O1 (fun b q => by omega)) O2
  have n2 : ∀ b, 100 ≤ b → h2.1 b = none := fun b hb => by rw [(OA b (by omega)).1]; exact no b (by omega)
  have n100 := n2 100 (by decide)
  have x2 : h2.1 10 = some (5, 0) := c1.1.1
  (simp only [lv_args, fn0, fn1, fn2, fn3, ax_wq_s, ax_step2, ax_ins2_u, ax_ins, ax_nx, ax_cut, ax_lk, ax_st1, ax_st2, ax_ins0, ax_tg, ax_go, ax_sw2, ax_lsw2, ax_kc_s, ax_kc_n, ax_rf_rf, ax_isR_rf, ct_int, ct_long, ct_ref, ct_null, ct_rf, rf_ref, rf_null, isR_ref, isR_null, va_rf_s, va_rf_n, gv_0, gv_1, gv_2, pv_i, pv_r, pv_n, pv_q, pk_0, pk_2, pk_2n, pk_2q, pk_10, pk_11, rok_i, rok_z0, rok_z1, ex_eq, ex_z, ex_z2, ex_cz, List.filter_cons, List.filter_nil, List.take_succ_cons, List.take_zero, List.drop_succ_cons, List.drop_zero, List.reverse_cons, List.reverse_nil, List.nil_append, List.cons_append, List.append_nil, List.length_cons, List.length_nil, List.map_cons, List.map_nil, List.sum_cons, List.sum_nil, Bool.not_true, Bool.not_false, Bool.and_true, Bool.true_and, Bool.and_false, Bool.false_and, Bool.or_false, Bool.false_or, Bool.true_or, Bool.or_true, beq_self_eq_true, Nat.reduceBEq, Nat.reduceAdd, Nat.reduceSub, Nat.reduceLT, Nat.reduceLeDiff, Nat.reduceEqDiff, Int.reduceAdd, Int.reduceNeg, Int.reduceToNat, Int.reduceLE, Int.reduceNatCast, Int.reduceNatCast', ↓reduceIte, if_true, if_false, true_and, and_true, false_and, and_false, true_or, or_true, false_or, or_false, Nat.sub_zero, Nat.le_refl, Bool.false_eq_true, Bool.true_eq_false, false_implies, true_implies, implies_true, not_true_eq_false, not_false_eq_true, eq_self, Fin.isValue, Nat.zero_add, Nat.add_zero, and_self, ne_eq, b01, Int32.reduceLT, Int32.reduceLE, z32, z64, vl_0, tl_0, vl_1, tl_1, vl_2, tl_2, vl_3, tl_3, vl_4, tl_4, vl_5, tl_5, vl_6, tl_6, vl_7, tl_7, vl_8, tl_8, vl_9, tl_9, Int.reduceSub, Int.reduceEq, Int.reduceLT, reduceCtorEq, ro_obj, dL_law_7, dL_law_8, kl_8_10, aN_6]; try simp only [ax_ife, if_true, if_false, true_implies, implies_true, false_implies, and_true, true_and, not_true_eq_false, not_false_eq_true])
  refine ⟨100, n100, ?_⟩
  have O3 := OU_new h2 100 (6, 0)
  have y0 : (ax_new h2 100 (6, 0)).1 100 = some (6, 0) := by rw [new_1, if_pos rfl]
  have y1 : ∀ k, (ax_new h2 100 (6, 0)).2.1 100 k = 0 := fun k => by rw [new_21, if_pos rfl]
  generalize ax_new h2 100 (6, 0) = h3 at O3 y0 y1 ⊢
  have cm := c_X7_init (G := G) y0 y1 (fun k k1 k2 => by rw [(O3 (100 + k) (by omega)).1]; exact n2 _ (by omega))
  refine ax_wq_ok (cuts := [ 18]) 30 ?_
  (simp only [lv_args, fn0, fn1, fn2, fn3, ax_wq_s, ax_step2, ax_ins2_u, ax_ins, ax_nx, ax_cut, ax_lk, ax_st1, ax_st2, ax_ins0, ax_tg, ax_go, ax_sw2, ax_lsw2, ax_kc_s, ax_kc_n, ax_rf_rf, ax_isR_rf, ct_int, ct_long, ct_ref, ct_null, ct_rf, rf_ref, rf_null, isR_ref, isR_null, va_rf_s, va_rf_n, gv_0, gv_1, gv_2, pv_i, pv_r, pv_n, pv_q, pk_0, pk_2, pk_2n, pk_2q, pk_10, pk_11, rok_i, rok_z0, rok_z1, ex_eq, ex_z, ex_z2, ex_cz, List.filter_cons, List.filter_nil, List.take_succ_cons, List.take_zero, List.drop_succ_cons, List.drop_zero, List.reverse_cons, List.reverse_nil, List.nil_append, List.cons_append, List.append_nil, List.length_cons, List.length_nil, List.map_cons, List.map_nil, List.sum_cons, List.sum_nil, Bool.not_true, Bool.not_false, Bool.and_true, Bool.true_and, Bool.and_false, Bool.false_and, Bool.or_false, Bool.false_or, Bool.true_or, Bool.or_true, beq_self_eq_true, Nat.reduceBEq, Nat.reduceAdd, Nat.reduceSub, Nat.reduceLT, Nat.reduceLeDiff, Nat.reduceEqDiff, Int.reduceAdd, Int.reduceNeg, Int.reduceToNat, Int.reduceLE, Int.reduceNatCast, Int.reduceNatCast', ↓reduceIte, if_true, if_false, true_and, and_true, false_and, and_false, true_or, or_true, false_or, or_false, Nat.sub_zero, Nat.le_refl, Bool.false_eq_true, Bool.true_eq_false, false_implies, true_implies, implies_true, not_true_eq_false, not_false_eq_true, eq_self, Fin.isValue, Nat.zero_add, Nat.add_zero, and_self, ne_eq, b01, Int32.reduceLT, Int32.reduceLE, z32, z64, vl_0, tl_0, vl_1, tl_1, vl_2, tl_2, vl_3, tl_3, vl_4, tl_4, vl_5, tl_5, vl_6, tl_6, vl_7, tl_7, vl_8, tl_8, vl_9, tl_9, Int.reduceSub, Int.reduceEq, Int.reduceLT, reduceCtorEq, ro_obj, dL_law_11, dL_law_12, cl_8_12, y0]; try simp only [ax_ife, if_true, if_false, true_implies, implies_true, false_implies, and_true, true_and, not_true_eq_false, not_false_eq_true])
  refine ax_c0B cm (by decide) (by omega) (by omega) (fun h4 ⟨O4, m1, m2, m3, m4, m5⟩ => ?_)
  have OM : OU (fun b => 100 ≤ b ∧ b < 139) h2 h4 := OU_tr (OU_mo O3 (fun b q => by omega)) (fun b q => by
    replace q : ¬ (100 ≤ b ∧ b < 139) := q
    exact O4 b (by omega))
  have W : WAL 0 s_B0 (fun _ => 0) 1 0 s_X0 s_E0 0 s_lw s_z0 s_I0 := ⟨WH_X0 _, ⟨by decide, fun i hi => absurd hi (Nat.not_lt_zero i)⟩, WSZ_z0, fun q => by cases q⟩
  have C2 : CLS 0 s_B0 (fun _ => 0) 1 0 s_X0 s_E0 0 s_lw s_z0 s_I0 200 h2 := ⟨c1, c2, c3, c4, c5, ⟨Nat.le_refl _, fun i hi => absurd hi (Nat.not_lt_zero i), fun a ha => n2 a (by omega)⟩⟩
  have S4 : SCR L xs h4 := SCR_O OM (by omega) (SCR_O OA (by omega) ⟨s1, sx⟩)
  have g := k_law_loop hL (G := G) 513 0 5130 61560 h4 (by decide) (by omega) (by decide) (by decide) ⟨0, s_B0, fun _ => 0, 1, 0, s_X0, s_E0, 0, s_lw, s_z0, s_I0, 200, W, CLS_M W OM C2, ⟨m1, m2, m3, m4, m5⟩, S4⟩
  (simp only [lv_args, fn0, fn1, fn2, fn3, ax_wq_s, ax_step2, ax_ins2_u, ax_ins, ax_nx, ax_cut, ax_lk, ax_st1, ax_st2, ax_ins0, ax_tg, ax_go, ax_sw2, ax_lsw2, ax_kc_s, ax_kc_n, ax_rf_rf, ax_isR_rf, ct_int, ct_long, ct_ref, ct_null, ct_rf, rf_ref, rf_null, isR_ref, isR_null, va_rf_s, va_rf_n, gv_0, gv_1, gv_2, pv_i, pv_r, pv_n, pv_q, pk_0, pk_2, pk_2n, pk_2q, pk_10, pk_11, rok_i, rok_z0, rok_z1, ex_eq, ex_z, ex_z2, ex_cz, List.filter_cons, List.filter_nil, List.take_succ_cons, List.take_zero, List.drop_succ_cons, List.drop_zero, List.reverse_cons, List.reverse_nil, List.nil_append, List.cons_append, List.append_nil, List.length_cons, List.length_nil, List.map_cons, List.map_nil, List.sum_cons, List.sum_nil, Bool.not_true, Bool.not_false, Bool.and_true, Bool.true_and, Bool.and_false, Bool.false_and, Bool.or_false, Bool.false_or, Bool.true_or, Bool.or_true, beq_self_eq_true, Nat.reduceBEq, Nat.reduceAdd, Nat.reduceSub, Nat.reduceLT, Nat.reduceLeDiff, Nat.reduceEqDiff, Int.reduceAdd, Int.reduceNeg, Int.reduceToNat, Int.reduceLE, Int.reduceNatCast, Int.reduceNatCast', ↓reduceIte, if_true, if_false, true_and, and_true, false_and, and_false, true_or, or_true, false_or, or_false, Nat.sub_zero, Nat.le_refl, Bool.false_eq_true, Bool.true_eq_false, false_implies, true_implies, implies_true, not_true_eq_false, not_false_eq_true, eq_self, Fin.isValue, Nat.zero_add, Nat.add_zero, and_self, ne_eq, b01, Int32.reduceLT, Int32.reduceLE, z32, z64, vl_0, tl_0, vl_1, tl_1, vl_2, tl_2, vl_3, tl_3, vl_4, tl_4, vl_5, tl_5, vl_6, tl_6, vl_7, tl_7, vl_8, tl_8, vl_9, tl_9, Int.reduceSub, Int.reduceEq, Int.reduceLT, reduceCtorEq, ro_obj, dL_law_15, dL_law_16, ki_0, dL_law_17]; try simp only [ax_ife, if_true, if_false, true_implies, implies_true, false_implies, and_true, true_and, not_true_eq_false, not_false_eq_true])
  exact g
end LLO
