/-! the reference's contracts: leaves -/
def s_in (v lo hi : Int32) : Int32 := if lo ≤ v ∧ v ≤ hi then 1 else 0
def s_within (v lo hi : Int32) : Int32 := if v < lo then lo else if hi < v then hi else v
theorem s_in_0 (v lo hi : Int32) : (s_in v lo hi = 0) = ¬ (lo ≤ v ∧ v ≤ hi) := by unfold s_in; rw [b01]
theorem rok_in (v lo hi : Int32) : ax_rok (some .boolean) (some (.int (s_in v lo hi))) = True := by
  unfold s_in
  exact rok_if
set_option maxRecDepth 100000 in
set_option maxHeartbeats 400000 in
theorem c_X7_in (G : AG) (v lo hi : Int32) (h : AH) : AC G jX7_in 1 0 0 [.int v, .int lo, .int hi] h (Pu (.int (s_in v lo hi)) h) := by
  refine ax_intro 6 false cdX7_in (by decide +kernel) (by decide +kernel) (by decide +kernel) (Nat.le_of_ble_eq_true rfl) ?_
  refine ax_wp_ok (cuts := []) 30 ?_
  simp only [lv_args, fn0, fn1, fn2, fn3, ax_wp_s, ax_step, ax_ins, ax_nx, ax_cut, ax_lk, ax_st1, ax_st2, ax_ins0, ax_tg, ax_go, ax_sw, ax_lsw, ax_kc_s, ax_kc_n, ax_rf_rf, ax_isR_rf, ct_int, ct_long, ct_ref, ct_null, ct_rf, rf_ref, rf_null, isR_ref, isR_null, va_rf_s, va_rf_n, gv_0, gv_1, gv_2, pv_i, pv_r, pv_n, pv_q, pk_0, pk_2, pk_2n, pk_2q, pk_10, pk_11, rok_i, rok_z0, rok_z1, ex_eq, ex_z, ex_z2, ex_cz, List.filter_cons, List.filter_nil, List.take_succ_cons, List.take_zero, List.drop_succ_cons, List.drop_zero, List.reverse_cons, List.reverse_nil, List.nil_append, List.cons_append, List.append_nil, List.length_cons, List.length_nil, List.map_cons, List.map_nil, List.sum_cons, List.sum_nil, Bool.not_true, Bool.not_false, Bool.and_true, Bool.true_and, Bool.and_false, Bool.false_and, Bool.or_false, Bool.false_or, Bool.true_or, Bool.or_true, beq_self_eq_true, Nat.reduceBEq, Nat.reduceAdd, Nat.reduceSub, Nat.reduceLT, Nat.reduceLeDiff, Nat.reduceEqDiff, Int.reduceAdd, Int.reduceNeg, Int.reduceToNat, Int.reduceLE, Int.reduceNatCast, Int.reduceNatCast', ite_true, ite_false, if_true, if_false, reduceIte, true_and, and_true, false_and, and_false, true_or, or_true, false_or, or_false, Nat.sub_zero, Nat.le_refl, Bool.false_eq_true, Bool.true_eq_false, false_implies, true_implies, implies_true, not_true_eq_false, not_false_eq_true, eq_self, Fin.isValue, Nat.zero_add, Nat.add_zero, and_self, ne_eq, b01, Int32.reduceLT, Int32.reduceLE, z32, z64, m_X7_in, dX7_in_0, dX7_in_1, dX7_in_2, dX7_in_5, dX7_in_6, dX7_in_7, dX7_in_10, ki_1, dX7_in_11, dX7_in_14, ki_0, dX7_in_15, Pu, s_in]
  simp only [i_lt, i_le]
  refine ⟨fun a => ?_, fun a => ⟨fun b => ?_, fun b => ?_⟩⟩
  · rw [if_neg (by omega)]
  · rw [if_neg (by omega)]
  · rw [if_pos (by omega)]
set_option maxRecDepth 100000 in
set_option maxHeartbeats 400000 in
theorem c_X7_within (G : AG) (v lo hi : Int32) (h : AH) : AC G jX7_within 1 0 0 [.int v, .int lo, .int hi] h (Pu (.int (s_within v lo hi)) h) := by
  refine ax_intro 6 false cdX7_within (by decide +kernel) (by decide +kernel) (by decide +kernel) (Nat.le_of_ble_eq_true rfl) ?_
  refine ax_wp_ok (cuts := []) 30 ?_
  simp only [lv_args, fn0, fn1, fn2, fn3, ax_wp_s, ax_step, ax_ins, ax_nx, ax_cut, ax_lk, ax_st1, ax_st2, ax_ins0, ax_tg, ax_go, ax_sw, ax_lsw, ax_kc_s, ax_kc_n, ax_rf_rf, ax_isR_rf, ct_int, ct_long, ct_ref, ct_null, ct_rf, rf_ref, rf_null, isR_ref, isR_null, va_rf_s, va_rf_n, gv_0, gv_1, gv_2, pv_i, pv_r, pv_n, pv_q, pk_0, pk_2, pk_2n, pk_2q, pk_10, pk_11, rok_i, rok_z0, rok_z1, ex_eq, ex_z, ex_z2, ex_cz, List.filter_cons, List.filter_nil, List.take_succ_cons, List.take_zero, List.drop_succ_cons, List.drop_zero, List.reverse_cons, List.reverse_nil, List.nil_append, List.cons_append, List.append_nil, List.length_cons, List.length_nil, List.map_cons, List.map_nil, List.sum_cons, List.sum_nil, Bool.not_true, Bool.not_false, Bool.and_true, Bool.true_and, Bool.and_false, Bool.false_and, Bool.or_false, Bool.false_or, Bool.true_or, Bool.or_true, beq_self_eq_true, Nat.reduceBEq, Nat.reduceAdd, Nat.reduceSub, Nat.reduceLT, Nat.reduceLeDiff, Nat.reduceEqDiff, Int.reduceAdd, Int.reduceNeg, Int.reduceToNat, Int.reduceLE, Int.reduceNatCast, Int.reduceNatCast', ite_true, ite_false, if_true, if_false, reduceIte, true_and, and_true, false_and, and_false, true_or, or_true, false_or, or_false, Nat.sub_zero, Nat.le_refl, Bool.false_eq_true, Bool.true_eq_false, false_implies, true_implies, implies_true, not_true_eq_false, not_false_eq_true, eq_self, Fin.isValue, Nat.zero_add, Nat.add_zero, and_self, ne_eq, b01, Int32.reduceLT, Int32.reduceLE, z32, z64, m_X7_within, dX7_within_0, dX7_within_1, dX7_within_2, dX7_within_5, dX7_within_6, dX7_within_9, dX7_within_10, dX7_within_11, dX7_within_14, dX7_within_15, dX7_within_18, dX7_within_19, Pu, s_within]
  simp only [i_lt, i_le]
  refine ⟨fun a => ⟨fun b => ?_, fun b => ?_⟩, fun a => ?_⟩
  · rw [if_neg (by omega), if_neg (by omega)]
  · rw [if_neg (by omega), if_pos (by omega)]
  · rw [if_pos (by omega)]
section MB
variable {G : AG} {n : Nat} {B : SB} {h : AH}
set_option maxRecDepth 100000 in
set_option maxHeartbeats 400000 in
theorem c_X7_isBit (T : TopM h) (W : WFB n B) (R : RMB n B h) (b : Int32) : AC G jX7_isBit 2 0 0 [.ref 100, .int b] h (Pu (.int (if 0 ≤ b.toInt ∧ b.toInt < n then 1 else 0)) h) := by
  unfold TopM at T
  refine ax_intro 6 false cdX7_isBit (by decide +kernel) (by decide +kernel) (by decide +kernel) (Nat.le_of_ble_eq_true rfl) ?_
  refine ax_wp_ok (cuts := []) 30 ?_
  simp only [lv_args, fn0, fn1, fn2, fn3, ax_wp_s, ax_step, ax_ins, ax_nx, ax_cut, ax_lk, ax_st1, ax_st2, ax_ins0, ax_tg, ax_go, ax_sw, ax_lsw, ax_kc_s, ax_kc_n, ax_rf_rf, ax_isR_rf, ct_int, ct_long, ct_ref, ct_null, ct_rf, rf_ref, rf_null, isR_ref, isR_null, va_rf_s, va_rf_n, gv_0, gv_1, gv_2, pv_i, pv_r, pv_n, pv_q, pk_0, pk_2, pk_2n, pk_2q, pk_10, pk_11, rok_i, rok_z0, rok_z1, ex_eq, ex_z, ex_z2, ex_cz, List.filter_cons, List.filter_nil, List.take_succ_cons, List.take_zero, List.drop_succ_cons, List.drop_zero, List.reverse_cons, List.reverse_nil, List.nil_append, List.cons_append, List.append_nil, List.length_cons, List.length_nil, List.map_cons, List.map_nil, List.sum_cons, List.sum_nil, Bool.not_true, Bool.not_false, Bool.and_true, Bool.true_and, Bool.and_false, Bool.false_and, Bool.or_false, Bool.false_or, Bool.true_or, Bool.or_true, beq_self_eq_true, Nat.reduceBEq, Nat.reduceAdd, Nat.reduceSub, Nat.reduceLT, Nat.reduceLeDiff, Nat.reduceEqDiff, Int.reduceAdd, Int.reduceNeg, Int.reduceToNat, Int.reduceLE, Int.reduceNatCast, Int.reduceNatCast', ite_true, ite_false, if_true, if_false, reduceIte, true_and, and_true, false_and, and_false, true_or, or_true, false_or, or_false, Nat.sub_zero, Nat.le_refl, Bool.false_eq_true, Bool.true_eq_false, false_implies, true_implies, implies_true, not_true_eq_false, not_false_eq_true, eq_self, Fin.isValue, Nat.zero_add, Nat.add_zero, and_self, ne_eq, b01, Int32.reduceLT, Int32.reduceLE, z32, z64, m_X7_isBit, dX7_isBit_0, dX7_isBit_1, ki_0, dX7_isBit_2, dX7_isBit_3, fl_6_84, dX7_isBit_6, ki_1, dX7_isBit_7, dX7_isBit_8, cl_6_87, dX7_isBit_11, T]
  refine ax_pu (c_X7_in _ _ _ _ _) (by decide) ?_
  simp only [lv_args, fn0, fn1, fn2, fn3, ax_wp_s, ax_step, ax_ins, ax_nx, ax_cut, ax_lk, ax_st1, ax_st2, ax_ins0, ax_tg, ax_go, ax_sw, ax_lsw, ax_kc_s, ax_kc_n, ax_rf_rf, ax_isR_rf, ct_int, ct_long, ct_ref, ct_null, ct_rf, rf_ref, rf_null, isR_ref, isR_null, va_rf_s, va_rf_n, gv_0, gv_1, gv_2, pv_i, pv_r, pv_n, pv_q, pk_0, pk_2, pk_2n, pk_2q, pk_10, pk_11, rok_i, rok_z0, rok_z1, ex_eq, ex_z, ex_z2, ex_cz, List.filter_cons, List.filter_nil, List.take_succ_cons, List.take_zero, List.drop_succ_cons, List.drop_zero, List.reverse_cons, List.reverse_nil, List.nil_append, List.cons_append, List.append_nil, List.length_cons, List.length_nil, List.map_cons, List.map_nil, List.sum_cons, List.sum_nil, Bool.not_true, Bool.not_false, Bool.and_true, Bool.true_and, Bool.and_false, Bool.false_and, Bool.or_false, Bool.false_or, Bool.true_or, Bool.or_true, beq_self_eq_true, Nat.reduceBEq, Nat.reduceAdd, Nat.reduceSub, Nat.reduceLT, Nat.reduceLeDiff, Nat.reduceEqDiff, Int.reduceAdd, Int.reduceNeg, Int.reduceToNat, Int.reduceLE, Int.reduceNatCast, Int.reduceNatCast', ite_true, ite_false, if_true, if_false, reduceIte, true_and, and_true, false_and, and_false, true_or, or_true, false_or, or_false, Nat.sub_zero, Nat.le_refl, Bool.false_eq_true, Bool.true_eq_false, false_implies, true_implies, implies_true, not_true_eq_false, not_false_eq_true, eq_self, Fin.isValue, Nat.zero_add, Nat.add_zero, and_self, ne_eq, b01, Int32.reduceLT, Int32.reduceLE, z32, z64, m_X7_isBit, dX7_isBit_0, dX7_isBit_1, ki_0, dX7_isBit_2, dX7_isBit_3, fl_6_84, dX7_isBit_6, ki_1, dX7_isBit_7, dX7_isBit_8, cl_6_87, dX7_isBit_11, Pu, rok_in, R.1]
  have e := ib_iff (n31 W) b
  unfold s_ib at e
  unfold s_in
  simp only [e]
set_option maxRecDepth 100000 in
set_option maxHeartbeats 400000 in
theorem c_X7_isFireplace (T : TopM h) (W : WFB n B) (R : RMB n B h) (b : Int32) : AC G jX7_isFireplace 3 0 0 [.ref 100, .int b] h (Pu (.int (if s_ib n b ∧ s_fp n B b.toInt.toNat = true then 1 else 0)) h) := by
  have T' := T
  unfold TopM at T
  have h31 := n31 W
  have lp : ∀ (k o : Nat) (x : Int32), o + k = n → (x = 1 ∧ (s_ib n b ∧ ∀ i, i < o → B i 0 ≠ b.toInt.toNat + 1) ∨ x = 0 ∧ ¬ (s_ib n b ∧ ∀ i, i < o → B i 0 ≠ b.toInt.toNat + 1)) → AW G 6 4 false cX7_isFireplace (Option.some FieldType.boolean) 3 (Pu (.int (if s_ib n b ∧ s_fp n B b.toInt.toNat = true then 1 else 0)) h) 0 0 8 [(0, .ref 100), (1, .int b), (2, .int x), (3, .int (nI o))] [] h := by
    intro k
    induction k with
    | zero =>
      intro o x ho hx
      have e : o = n := by omega
      subst e
      refine ax_wp_ok (cuts := [ 8]) 40 ?_
      simp only [lv_args, fn0, fn1, fn2, fn3, ax_wp_s, ax_step, ax_ins, ax_nx, ax_cut, ax_lk, ax_st1, ax_st2, ax_ins0, ax_tg, ax_go, ax_sw, ax_lsw, ax_kc_s, ax_kc_n, ax_rf_rf, ax_isR_rf, ct_int, ct_long, ct_ref, ct_null, ct_rf, rf_ref, rf_null, isR_ref, isR_null, va_rf_s, va_rf_n, gv_0, gv_1, gv_2, pv_i, pv_r, pv_n, pv_q, pk_0, pk_2, pk_2n, pk_2q, pk_10, pk_11, rok_i, rok_z0, rok_z1, ex_eq, ex_z, ex_z2, ex_cz, List.filter_cons, List.filter_nil, List.take_succ_cons, List.take_zero, List.drop_succ_cons, List.drop_zero, List.reverse_cons, List.reverse_nil, List.nil_append, List.cons_append, List.append_nil, List.length_cons, List.length_nil, List.map_cons, List.map_nil, List.sum_cons, List.sum_nil, Bool.not_true, Bool.not_false, Bool.and_true, Bool.true_and, Bool.and_false, Bool.false_and, Bool.or_false, Bool.false_or, Bool.true_or, Bool.or_true, beq_self_eq_true, Nat.reduceBEq, Nat.reduceAdd, Nat.reduceSub, Nat.reduceLT, Nat.reduceLeDiff, Nat.reduceEqDiff, Int.reduceAdd, Int.reduceNeg, Int.reduceToNat, Int.reduceLE, Int.reduceNatCast, Int.reduceNatCast', ite_true, ite_false, if_true, if_false, reduceIte, true_and, and_true, false_and, and_false, true_or, or_true, false_or, or_false, Nat.sub_zero, Nat.le_refl, Bool.false_eq_true, Bool.true_eq_false, false_implies, true_implies, implies_true, not_true_eq_false, not_false_eq_true, eq_self, Fin.isValue, Nat.zero_add, Nat.add_zero, and_self, ne_eq, b01, Int32.reduceLT, Int32.reduceLE, z32, z64, m_X7_isFireplace, dX7_isFireplace_0, dX7_isFireplace_1, dX7_isFireplace_2, cl_6_91, dX7_isFireplace_5, dX7_isFireplace_6, ki_0, dX7_isFireplace_7, dX7_isFireplace_8, dX7_isFireplace_9, dX7_isFireplace_10, fl_6_84, dX7_isFireplace_13, dX7_isFireplace_16, dX7_isFireplace_17, dX7_isFireplace_20, dX7_isFireplace_21, fl_6_7, dX7_isFireplace_24, dX7_isFireplace_25, dX7_isFireplace_26, dX7_isFireplace_27, dX7_isFireplace_30, ki_1, dX7_isFireplace_31, dX7_isFireplace_34, dX7_isFireplace_35, dX7_isFireplace_36, dX7_isFireplace_39, dX7_isFireplace_42, dX7_isFireplace_43, T, Pu, R.1, Int32.le_refl]
      rcases hx with ⟨rfl, hx⟩ | ⟨rfl, hx⟩
      · rw [if_pos (show s_ib o b ∧ s_fp o B b.toInt.toNat = true from ⟨hx.1, s_fp_iff.mpr hx.2⟩)]
        exact ⟨of_eq_true rok_z1, rfl⟩
      · rw [if_neg (show ¬ (s_ib o b ∧ s_fp o B b.toInt.toNat = true) from fun z => hx ⟨z.1, s_fp_iff.mp z.2⟩)]
        exact ⟨of_eq_true rok_z0, rfl⟩
    | succ k ih =>
      intro o x ho hx
      have hV : o < n := by omega
      have hlt : ¬ nI n ≤ nI o := nI_ge hV h31
      have hv31 : o < 2 ^ 31 := by have := W.1; omega
      have hc : (nI o).toNatClampNeg = o := nI_clamp hv31
      have hin : vp_in (nI o) 10 := vp_in_nI (by have := W.1; omega) (by decide)
      have hm1 : ¬ nI o = -1 := i_nm1 hv31
      obtain ⟨r0, r1, r2, r3, r4, r5, r6⟩ := R.2 o hV
      obtain ⟨w0, w1, w2, w2b, w3, w4, w5, w6⟩ := W.2 o hV
      have key : s_ib n b → (nI (B o 0) - 1 = b ↔ B o 0 = b.toInt.toNat + 1) := fun q => by
        obtain ⟨c, hc1, rfl⟩ := ib_of q
        rw [i_n (by omega)]
        cases hB : B o 0 with
        | zero => rw [i_m1m]; exact ⟨fun z => absurd z.symm (i_nm1 (by omega)), fun z => by omega⟩
        | succ w =>
          rw [i_m1, nI_eq (by omega) (by omega)]
          omega
      refine ax_wp_ok (cuts := [ 8]) 40 ?_
      simp only [lv_args, fn0, fn1, fn2, fn3, ax_wp_s, ax_step, ax_ins, ax_nx, ax_cut, ax_lk, ax_st1, ax_st2, ax_ins0, ax_tg, ax_go, ax_sw, ax_lsw, ax_kc_s, ax_kc_n, ax_rf_rf, ax_isR_rf, ct_int, ct_long, ct_ref, ct_null, ct_rf, rf_ref, rf_null, isR_ref, isR_null, va_rf_s, va_rf_n, gv_0, gv_1, gv_2, pv_i, pv_r, pv_n, pv_q, pk_0, pk_2, pk_2n, pk_2q, pk_10, pk_11, rok_i, rok_z0, rok_z1, ex_eq, ex_z, ex_z2, ex_cz, List.filter_cons, List.filter_nil, List.take_succ_cons, List.take_zero, List.drop_succ_cons, List.drop_zero, List.reverse_cons, List.reverse_nil, List.nil_append, List.cons_append, List.append_nil, List.length_cons, List.length_nil, List.map_cons, List.map_nil, List.sum_cons, List.sum_nil, Bool.not_true, Bool.not_false, Bool.and_true, Bool.true_and, Bool.and_false, Bool.false_and, Bool.or_false, Bool.false_or, Bool.true_or, Bool.or_true, beq_self_eq_true, Nat.reduceBEq, Nat.reduceAdd, Nat.reduceSub, Nat.reduceLT, Nat.reduceLeDiff, Nat.reduceEqDiff, Int.reduceAdd, Int.reduceNeg, Int.reduceToNat, Int.reduceLE, Int.reduceNatCast, Int.reduceNatCast', ite_true, ite_false, if_true, if_false, reduceIte, true_and, and_true, false_and, and_false, true_or, or_true, false_or, or_false, Nat.sub_zero, Nat.le_refl, Bool.false_eq_true, Bool.true_eq_false, false_implies, true_implies, implies_true, not_true_eq_false, not_false_eq_true, eq_self, Fin.isValue, Nat.zero_add, Nat.add_zero, and_self, ne_eq, b01, Int32.reduceLT, Int32.reduceLE, z32, z64, m_X7_isFireplace, dX7_isFireplace_0, dX7_isFireplace_1, dX7_isFireplace_2, cl_6_91, dX7_isFireplace_5, dX7_isFireplace_6, ki_0, dX7_isFireplace_7, dX7_isFireplace_8, dX7_isFireplace_9, dX7_isFireplace_10, fl_6_84, dX7_isFireplace_13, dX7_isFireplace_16, dX7_isFireplace_17, dX7_isFireplace_20, dX7_isFireplace_21, fl_6_7, dX7_isFireplace_24, dX7_isFireplace_25, dX7_isFireplace_26, dX7_isFireplace_27, dX7_isFireplace_30, ki_1, dX7_isFireplace_31, dX7_isFireplace_34, dX7_isFireplace_35, dX7_isFireplace_36, dX7_isFireplace_39, dX7_isFireplace_42, dX7_isFireplace_43, T, R.1, hc, hin, r0, nI_1, hlt]
      have far : ∀ i, (i < o + 1) ↔ (i < o ∨ i = o) := fun i => by omega
      refine ⟨fun q => ih (o + 1) 0 (by omega) (Or.inr ⟨rfl, fun z => ?_⟩), fun q => ⟨fun e => ih (o + 1) 0 (by omega) (Or.inr ⟨rfl, fun z => ?_⟩), fun e => ih (o + 1) 1 (by omega) (Or.inl ⟨rfl, ?_⟩)⟩⟩
      · rcases hx with ⟨rfl, hx⟩ | ⟨rfl, hx⟩
        · exact absurd q (by decide)
        · exact hx ⟨z.1, fun i hi => z.2 i (by omega)⟩
      · exact z.2 o (by omega) ((key z.1).mp e)
      · rcases hx with ⟨rfl, hx⟩ | ⟨rfl, hx⟩
        · refine ⟨hx.1, fun i hi => ?_⟩
          rcases (far i).mp hi with hi | rfl
          · exact hx.2 i hi
          · exact fun z => e ((key hx.1).mpr z)
        · exact absurd rfl q
  refine ax_intro 6 false cdX7_isFireplace (by decide +kernel) (by decide +kernel) (by decide +kernel) (Nat.le_of_ble_eq_true rfl) ?_
  refine ax_wp_ok (cuts := [ 8]) 30 ?_
  simp only [lv_args, fn0, fn1, fn2, fn3, ax_wp_s, ax_step, ax_ins, ax_nx, ax_cut, ax_lk, ax_st1, ax_st2, ax_ins0, ax_tg, ax_go, ax_sw, ax_lsw, ax_kc_s, ax_kc_n, ax_rf_rf, ax_isR_rf, ct_int, ct_long, ct_ref, ct_null, ct_rf, rf_ref, rf_null, isR_ref, isR_null, va_rf_s, va_rf_n, gv_0, gv_1, gv_2, pv_i, pv_r, pv_n, pv_q, pk_0, pk_2, pk_2n, pk_2q, pk_10, pk_11, rok_i, rok_z0, rok_z1, ex_eq, ex_z, ex_z2, ex_cz, List.filter_cons, List.filter_nil, List.take_succ_cons, List.take_zero, List.drop_succ_cons, List.drop_zero, List.reverse_cons, List.reverse_nil, List.nil_append, List.cons_append, List.append_nil, List.length_cons, List.length_nil, List.map_cons, List.map_nil, List.sum_cons, List.sum_nil, Bool.not_true, Bool.not_false, Bool.and_true, Bool.true_and, Bool.and_false, Bool.false_and, Bool.or_false, Bool.false_or, Bool.true_or, Bool.or_true, beq_self_eq_true, Nat.reduceBEq, Nat.reduceAdd, Nat.reduceSub, Nat.reduceLT, Nat.reduceLeDiff, Nat.reduceEqDiff, Int.reduceAdd, Int.reduceNeg, Int.reduceToNat, Int.reduceLE, Int.reduceNatCast, Int.reduceNatCast', ite_true, ite_false, if_true, if_false, reduceIte, true_and, and_true, false_and, and_false, true_or, or_true, false_or, or_false, Nat.sub_zero, Nat.le_refl, Bool.false_eq_true, Bool.true_eq_false, false_implies, true_implies, implies_true, not_true_eq_false, not_false_eq_true, eq_self, Fin.isValue, Nat.zero_add, Nat.add_zero, and_self, ne_eq, b01, Int32.reduceLT, Int32.reduceLE, z32, z64, m_X7_isFireplace, dX7_isFireplace_0, dX7_isFireplace_1, dX7_isFireplace_2, cl_6_91, dX7_isFireplace_5, dX7_isFireplace_6, ki_0, dX7_isFireplace_7, dX7_isFireplace_8, dX7_isFireplace_9, dX7_isFireplace_10, fl_6_84, dX7_isFireplace_13, dX7_isFireplace_16, dX7_isFireplace_17, dX7_isFireplace_20, dX7_isFireplace_21, fl_6_7, dX7_isFireplace_24, dX7_isFireplace_25, dX7_isFireplace_26, dX7_isFireplace_27, dX7_isFireplace_30, ki_1, dX7_isFireplace_31, dX7_isFireplace_34, dX7_isFireplace_35, dX7_isFireplace_36, dX7_isFireplace_39, dX7_isFireplace_42, dX7_isFireplace_43, T]
  refine ax_pu (c_X7_isBit T' W R _) (by decide) ?_
  simp only [lv_args, fn0, fn1, fn2, fn3, ax_wp_s, ax_step, ax_ins, ax_nx, ax_cut, ax_lk, ax_st1, ax_st2, ax_ins0, ax_tg, ax_go, ax_sw, ax_lsw, ax_kc_s, ax_kc_n, ax_rf_rf, ax_isR_rf, ct_int, ct_long, ct_ref, ct_null, ct_rf, rf_ref, rf_null, isR_ref, isR_null, va_rf_s, va_rf_n, gv_0, gv_1, gv_2, pv_i, pv_r, pv_n, pv_q, pk_0, pk_2, pk_2n, pk_2q, pk_10, pk_11, rok_i, rok_z0, rok_z1, ex_eq, ex_z, ex_z2, ex_cz, List.filter_cons, List.filter_nil, List.take_succ_cons, List.take_zero, List.drop_succ_cons, List.drop_zero, List.reverse_cons, List.reverse_nil, List.nil_append, List.cons_append, List.append_nil, List.length_cons, List.length_nil, List.map_cons, List.map_nil, List.sum_cons, List.sum_nil, Bool.not_true, Bool.not_false, Bool.and_true, Bool.true_and, Bool.and_false, Bool.false_and, Bool.or_false, Bool.false_or, Bool.true_or, Bool.or_true, beq_self_eq_true, Nat.reduceBEq, Nat.reduceAdd, Nat.reduceSub, Nat.reduceLT, Nat.reduceLeDiff, Nat.reduceEqDiff, Int.reduceAdd, Int.reduceNeg, Int.reduceToNat, Int.reduceLE, Int.reduceNatCast, Int.reduceNatCast', ite_true, ite_false, if_true, if_false, reduceIte, true_and, and_true, false_and, and_false, true_or, or_true, false_or, or_false, Nat.sub_zero, Nat.le_refl, Bool.false_eq_true, Bool.true_eq_false, false_implies, true_implies, implies_true, not_true_eq_false, not_false_eq_true, eq_self, Fin.isValue, Nat.zero_add, Nat.add_zero, and_self, ne_eq, b01, Int32.reduceLT, Int32.reduceLE, z32, z64, m_X7_isFireplace, dX7_isFireplace_0, dX7_isFireplace_1, dX7_isFireplace_2, cl_6_91, dX7_isFireplace_5, dX7_isFireplace_6, ki_0, dX7_isFireplace_7, dX7_isFireplace_8, dX7_isFireplace_9, dX7_isFireplace_10, fl_6_84, dX7_isFireplace_13, dX7_isFireplace_16, dX7_isFireplace_17, dX7_isFireplace_20, dX7_isFireplace_21, fl_6_7, dX7_isFireplace_24, dX7_isFireplace_25, dX7_isFireplace_26, dX7_isFireplace_27, dX7_isFireplace_30, ki_1, dX7_isFireplace_31, dX7_isFireplace_34, dX7_isFireplace_35, dX7_isFireplace_36, dX7_isFireplace_39, dX7_isFireplace_42, dX7_isFireplace_43]
  refine lp n 0 _ (by omega) ?_
  by_cases q : 0 ≤ b.toInt ∧ b.toInt < n
  · exact Or.inl ⟨if_pos q, q, fun i hi => by omega⟩
  · exact Or.inr ⟨if_neg q, fun z => q z.1⟩
set_option maxRecDepth 100000 in
set_option maxHeartbeats 400000 in
theorem c_X7_flueOf (T : TopM h) (W : WFB n B) (R : RMB n B h) {k : Nat} (hk : k < n) : AC G jX7_flueOf 1 0 0 [.ref 100, .int (nI k)] h (Pu (.int (s_set (s_fl B (k + 1)) 0)) h) := by
  unfold TopM at T
  have lp : ∀ (u : Nat) (acc : Int32), u ≤ n → s_set (s_fl B u) acc = s_set (s_fl B (k + 1)) 0 → AW G 6 4 false cX7_flueOf (Option.some FieldType.int) 1 (Pu (.int (s_set (s_fl B (k + 1)) 0)) h) 0 0 4 [(0, .ref 100), (1, .int (nI k)), (2, .int acc), (3, .int (nI u - 1))] [] h := by
    intro u
    induction u using Nat.strongRecOn with
    | _ u ih =>
      intro acc hu ha
      cases u with
      | zero =>
        refine ax_wp_ok (cuts := [ 4]) 40 ?_
        simp only [lv_args, fn0, fn1, fn2, fn3, ax_wp_s, ax_step, ax_ins, ax_nx, ax_cut, ax_lk, ax_st1, ax_st2, ax_ins0, ax_tg, ax_go, ax_sw, ax_lsw, ax_kc_s, ax_kc_n, ax_rf_rf, ax_isR_rf, ct_int, ct_long, ct_ref, ct_null, ct_rf, rf_ref, rf_null, isR_ref, isR_null, va_rf_s, va_rf_n, gv_0, gv_1, gv_2, pv_i, pv_r, pv_n, pv_q, pk_0, pk_2, pk_2n, pk_2q, pk_10, pk_11, rok_i, rok_z0, rok_z1, ex_eq, ex_z, ex_z2, ex_cz, List.filter_cons, List.filter_nil, List.take_succ_cons, List.take_zero, List.drop_succ_cons, List.drop_zero, List.reverse_cons, List.reverse_nil, List.nil_append, List.cons_append, List.append_nil, List.length_cons, List.length_nil, List.map_cons, List.map_nil, List.sum_cons, List.sum_nil, Bool.not_true, Bool.not_false, Bool.and_true, Bool.true_and, Bool.and_false, Bool.false_and, Bool.or_false, Bool.false_or, Bool.true_or, Bool.or_true, beq_self_eq_true, Nat.reduceBEq, Nat.reduceAdd, Nat.reduceSub, Nat.reduceLT, Nat.reduceLeDiff, Nat.reduceEqDiff, Int.reduceAdd, Int.reduceNeg, Int.reduceToNat, Int.reduceLE, Int.reduceNatCast, Int.reduceNatCast', ite_true, ite_false, if_true, if_false, reduceIte, true_and, and_true, false_and, and_false, true_or, or_true, false_or, or_false, Nat.sub_zero, Nat.le_refl, Bool.false_eq_true, Bool.true_eq_false, false_implies, true_implies, implies_true, not_true_eq_false, not_false_eq_true, eq_self, Fin.isValue, Nat.zero_add, Nat.add_zero, and_self, ne_eq, b01, Int32.reduceLT, Int32.reduceLE, z32, z64, m_X7_flueOf, dX7_flueOf_0, ki_0, dX7_flueOf_1, dX7_flueOf_2, dX7_flueOf_3, dX7_flueOf_4, dX7_flueOf_5, ki_m1, dX7_flueOf_6, dX7_flueOf_9, dX7_flueOf_10, ki_1, dX7_flueOf_11, dX7_flueOf_12, dX7_flueOf_13, dX7_flueOf_14, dX7_flueOf_15, dX7_flueOf_16, fl_6_7, dX7_flueOf_19, dX7_flueOf_20, dX7_flueOf_21, dX7_flueOf_22, dX7_flueOf_25, dX7_flueOf_26, T, Pu, i_m1m]
        rw [← ha]
        rfl
      | succ v =>
        have hV : v < n := by omega
        have hv31 : v < 2 ^ 31 := by have := W.1; omega
        have hc : (nI v).toNatClampNeg = v := nI_clamp hv31
        have hin : vp_in (nI v) 10 := vp_in_nI (by have := W.1; omega) (by decide)
        have hm1 : ¬ nI v = -1 := i_nm1 hv31
        obtain ⟨r0, r1, r2, r3, r4, r5, r6⟩ := R.2 v hV
        obtain ⟨w0, w1, w2, w2b, w3, w4, w5, w6⟩ := W.2 v hV
        rw [i_m1]
        refine ax_wp_ok (cuts := [ 4]) 40 ?_
        simp only [lv_args, fn0, fn1, fn2, fn3, ax_wp_s, ax_step, ax_ins, ax_nx, ax_cut, ax_lk, ax_st1, ax_st2, ax_ins0, ax_tg, ax_go, ax_sw, ax_lsw, ax_kc_s, ax_kc_n, ax_rf_rf, ax_isR_rf, ct_int, ct_long, ct_ref, ct_null, ct_rf, rf_ref, rf_null, isR_ref, isR_null, va_rf_s, va_rf_n, gv_0, gv_1, gv_2, pv_i, pv_r, pv_n, pv_q, pk_0, pk_2, pk_2n, pk_2q, pk_10, pk_11, rok_i, rok_z0, rok_z1, ex_eq, ex_z, ex_z2, ex_cz, List.filter_cons, List.filter_nil, List.take_succ_cons, List.take_zero, List.drop_succ_cons, List.drop_zero, List.reverse_cons, List.reverse_nil, List.nil_append, List.cons_append, List.append_nil, List.length_cons, List.length_nil, List.map_cons, List.map_nil, List.sum_cons, List.sum_nil, Bool.not_true, Bool.not_false, Bool.and_true, Bool.true_and, Bool.and_false, Bool.false_and, Bool.or_false, Bool.false_or, Bool.true_or, Bool.or_true, beq_self_eq_true, Nat.reduceBEq, Nat.reduceAdd, Nat.reduceSub, Nat.reduceLT, Nat.reduceLeDiff, Nat.reduceEqDiff, Int.reduceAdd, Int.reduceNeg, Int.reduceToNat, Int.reduceLE, Int.reduceNatCast, Int.reduceNatCast', ite_true, ite_false, if_true, if_false, reduceIte, true_and, and_true, false_and, and_false, true_or, or_true, false_or, or_false, Nat.sub_zero, Nat.le_refl, Bool.false_eq_true, Bool.true_eq_false, false_implies, true_implies, implies_true, not_true_eq_false, not_false_eq_true, eq_self, Fin.isValue, Nat.zero_add, Nat.add_zero, and_self, ne_eq, b01, Int32.reduceLT, Int32.reduceLE, z32, z64, m_X7_flueOf, dX7_flueOf_0, ki_0, dX7_flueOf_1, dX7_flueOf_2, dX7_flueOf_3, dX7_flueOf_4, dX7_flueOf_5, ki_m1, dX7_flueOf_6, dX7_flueOf_9, dX7_flueOf_10, ki_1, dX7_flueOf_11, dX7_flueOf_12, dX7_flueOf_13, dX7_flueOf_14, dX7_flueOf_15, dX7_flueOf_16, fl_6_7, dX7_flueOf_19, dX7_flueOf_20, dX7_flueOf_21, dX7_flueOf_22, dX7_flueOf_25, dX7_flueOf_26, T, Pu, hc, hin, hm1, r0]
        refine ih (B v 0) (by omega) _ (by omega) ?_
        rw [← ha, s_fl_s W hV]
        rfl
  refine ax_intro 6 false cdX7_flueOf (by decide +kernel) (by decide +kernel) (by decide +kernel) (Nat.le_of_ble_eq_true rfl) ?_
  refine ax_wp_ok (cuts := [ 4]) 30 ?_
  simp only [lv_args, fn0, fn1, fn2, fn3, ax_wp_s, ax_step, ax_ins, ax_nx, ax_cut, ax_lk, ax_st1, ax_st2, ax_ins0, ax_tg, ax_go, ax_sw, ax_lsw, ax_kc_s, ax_kc_n, ax_rf_rf, ax_isR_rf, ct_int, ct_long, ct_ref, ct_null, ct_rf, rf_ref, rf_null, isR_ref, isR_null, va_rf_s, va_rf_n, gv_0, gv_1, gv_2, pv_i, pv_r, pv_n, pv_q, pk_0, pk_2, pk_2n, pk_2q, pk_10, pk_11, rok_i, rok_z0, rok_z1, ex_eq, ex_z, ex_z2, ex_cz, List.filter_cons, List.filter_nil, List.take_succ_cons, List.take_zero, List.drop_succ_cons, List.drop_zero, List.reverse_cons, List.reverse_nil, List.nil_append, List.cons_append, List.append_nil, List.length_cons, List.length_nil, List.map_cons, List.map_nil, List.sum_cons, List.sum_nil, Bool.not_true, Bool.not_false, Bool.and_true, Bool.true_and, Bool.and_false, Bool.false_and, Bool.or_false, Bool.false_or, Bool.true_or, Bool.or_true, beq_self_eq_true, Nat.reduceBEq, Nat.reduceAdd, Nat.reduceSub, Nat.reduceLT, Nat.reduceLeDiff, Nat.reduceEqDiff, Int.reduceAdd, Int.reduceNeg, Int.reduceToNat, Int.reduceLE, Int.reduceNatCast, Int.reduceNatCast', ite_true, ite_false, if_true, if_false, reduceIte, true_and, and_true, false_and, and_false, true_or, or_true, false_or, or_false, Nat.sub_zero, Nat.le_refl, Bool.false_eq_true, Bool.true_eq_false, false_implies, true_implies, implies_true, not_true_eq_false, not_false_eq_true, eq_self, Fin.isValue, Nat.zero_add, Nat.add_zero, and_self, ne_eq, b01, Int32.reduceLT, Int32.reduceLE, z32, z64, m_X7_flueOf, dX7_flueOf_0, ki_0, dX7_flueOf_1, dX7_flueOf_2, dX7_flueOf_3, dX7_flueOf_4, dX7_flueOf_5, ki_m1, dX7_flueOf_6, dX7_flueOf_9, dX7_flueOf_10, ki_1, dX7_flueOf_11, dX7_flueOf_12, dX7_flueOf_13, dX7_flueOf_14, dX7_flueOf_15, dX7_flueOf_16, fl_6_7, dX7_flueOf_19, dX7_flueOf_20, dX7_flueOf_21, dX7_flueOf_22, dX7_flueOf_25, dX7_flueOf_26, T]
  have := lp (k + 1) 0 (by omega) rfl
  rw [i_m1] at this
  exact this
theorem c_X7_isFireplace_n (T : TopM h) (W : WFB n B) (R : RMB n B h) {k : Nat} (hk : k < n) : AC G jX7_isFireplace 3 0 0 [.ref 100, .int (nI k)] h (Pu (.int (if s_fp n B k = true then 1 else 0)) h) := by
  have := c_X7_isFireplace (G := G) T W R (nI k)
  have h31 := n31 W
  have e0 : (nI k).toInt = (k : Int) := i_n (by omega)
  have e : (s_ib n (nI k) ∧ s_fp n B ((nI k).toInt.toNat) = true) ↔ s_fp n B k = true := by
    rw [e0]
    exact ⟨fun q => q.2, fun q => ⟨ib_n h31 hk, q⟩⟩
  simp only [e] at this
  exact this
set_option maxRecDepth 100000 in
set_option maxHeartbeats 400000 in
theorem c_X7_isPot (T : TopM h) (W : WFB n B) (R : RMB n B h) (b : Int32) : AC G jX7_isPot 3 0 0 [.ref 100, .int b] h (Pu (.int (if s_ib n b ∧ B b.toInt.toNat 0 = 0 then 1 else 0)) h) := by
  have T' := T
  unfold TopM at T
  have h31 := n31 W
  refine ax_intro 6 false cdX7_isPot (by decide +kernel) (by decide +kernel) (by decide +kernel) (Nat.le_of_ble_eq_true rfl) ?_
  refine ax_wp_ok (cuts := []) 30 ?_
  simp only [lv_args, fn0, fn1, fn2, fn3, ax_wp_s, ax_step, ax_ins, ax_nx, ax_cut, ax_lk, ax_st1, ax_st2, ax_ins0, ax_tg, ax_go, ax_sw, ax_lsw, ax_kc_s, ax_kc_n, ax_rf_rf, ax_isR_rf, ct_int, ct_long, ct_ref, ct_null, ct_rf, rf_ref, rf_null, isR_ref, isR_null, va_rf_s, va_rf_n, gv_0, gv_1, gv_2, pv_i, pv_r, pv_n, pv_q, pk_0, pk_2, pk_2n, pk_2q, pk_10, pk_11, rok_i, rok_z0, rok_z1, ex_eq, ex_z, ex_z2, ex_cz, List.filter_cons, List.filter_nil, List.take_succ_cons, List.take_zero, List.drop_succ_cons, List.drop_zero, List.reverse_cons, List.reverse_nil, List.nil_append, List.cons_append, List.append_nil, List.length_cons, List.length_nil, List.map_cons, List.map_nil, List.sum_cons, List.sum_nil, Bool.not_true, Bool.not_false, Bool.and_true, Bool.true_and, Bool.and_false, Bool.false_and, Bool.or_false, Bool.false_or, Bool.true_or, Bool.or_true, beq_self_eq_true, Nat.reduceBEq, Nat.reduceAdd, Nat.reduceSub, Nat.reduceLT, Nat.reduceLeDiff, Nat.reduceEqDiff, Int.reduceAdd, Int.reduceNeg, Int.reduceToNat, Int.reduceLE, Int.reduceNatCast, Int.reduceNatCast', ite_true, ite_false, if_true, if_false, reduceIte, true_and, and_true, false_and, and_false, true_or, or_true, false_or, or_false, Nat.sub_zero, Nat.le_refl, Bool.false_eq_true, Bool.true_eq_false, false_implies, true_implies, implies_true, not_true_eq_false, not_false_eq_true, eq_self, Fin.isValue, Nat.zero_add, Nat.add_zero, and_self, ne_eq, b01, Int32.reduceLT, Int32.reduceLE, z32, z64, m_X7_isPot, dX7_isPot_0, dX7_isPot_1, dX7_isPot_2, cl_6_91, dX7_isPot_5, dX7_isPot_8, dX7_isPot_9, fl_6_7, dX7_isPot_12, dX7_isPot_13, dX7_isPot_14, ki_m1, dX7_isPot_15, dX7_isPot_18, ki_1, dX7_isPot_19, dX7_isPot_22, ki_0, dX7_isPot_23, T]
  refine ax_pu (c_X7_isBit T' W R _) (by decide) ?_
  simp only [lv_args, fn0, fn1, fn2, fn3, ax_wp_s, ax_step, ax_ins, ax_nx, ax_cut, ax_lk, ax_st1, ax_st2, ax_ins0, ax_tg, ax_go, ax_sw, ax_lsw, ax_kc_s, ax_kc_n, ax_rf_rf, ax_isR_rf, ct_int, ct_long, ct_ref, ct_null, ct_rf, rf_ref, rf_null, isR_ref, isR_null, va_rf_s, va_rf_n, gv_0, gv_1, gv_2, pv_i, pv_r, pv_n, pv_q, pk_0, pk_2, pk_2n, pk_2q, pk_10, pk_11, rok_i, rok_z0, rok_z1, ex_eq, ex_z, ex_z2, ex_cz, List.filter_cons, List.filter_nil, List.take_succ_cons, List.take_zero, List.drop_succ_cons, List.drop_zero, List.reverse_cons, List.reverse_nil, List.nil_append, List.cons_append, List.append_nil, List.length_cons, List.length_nil, List.map_cons, List.map_nil, List.sum_cons, List.sum_nil, Bool.not_true, Bool.not_false, Bool.and_true, Bool.true_and, Bool.and_false, Bool.false_and, Bool.or_false, Bool.false_or, Bool.true_or, Bool.or_true, beq_self_eq_true, Nat.reduceBEq, Nat.reduceAdd, Nat.reduceSub, Nat.reduceLT, Nat.reduceLeDiff, Nat.reduceEqDiff, Int.reduceAdd, Int.reduceNeg, Int.reduceToNat, Int.reduceLE, Int.reduceNatCast, Int.reduceNatCast', ite_true, ite_false, if_true, if_false, reduceIte, true_and, and_true, false_and, and_false, true_or, or_true, false_or, or_false, Nat.sub_zero, Nat.le_refl, Bool.false_eq_true, Bool.true_eq_false, false_implies, true_implies, implies_true, not_true_eq_false, not_false_eq_true, eq_self, Fin.isValue, Nat.zero_add, Nat.add_zero, and_self, ne_eq, b01, Int32.reduceLT, Int32.reduceLE, z32, z64, m_X7_isPot, dX7_isPot_0, dX7_isPot_1, dX7_isPot_2, cl_6_91, dX7_isPot_5, dX7_isPot_8, dX7_isPot_9, fl_6_7, dX7_isPot_12, dX7_isPot_13, dX7_isPot_14, ki_m1, dX7_isPot_15, dX7_isPot_18, ki_1, dX7_isPot_19, dX7_isPot_22, ki_0, dX7_isPot_23, Pu, T]
  refine ⟨fun q => ?_, fun q => ?_⟩
  · rw [if_neg (fun z => q z.1)]
  · obtain ⟨k, hV, rfl⟩ := ib_of (Decidable.not_not.mp q)
    have hv31 : k < 2 ^ 31 := by have := W.1; omega
    have hc : (nI k).toNatClampNeg = k := nI_clamp hv31
    have hin : vp_in (nI k) 10 := vp_in_nI (by have := W.1; omega) (by decide)
    have hm1 : ¬ nI k = -1 := i_nm1 hv31
    obtain ⟨r0, r1, r2, r3, r4, r5, r6⟩ := R.2 k hV
    obtain ⟨w0, w1, w2, w2b, w3, w4, w5, w6⟩ := W.2 k hV
    have e : (s_ib n (nI k) ∧ B ((nI k).toInt.toNat) 0 = 0) ↔ B k 0 = 0 := by
      rw [i_n hv31]
      exact ⟨fun q => q.2, fun q => ⟨ib_n h31 hV, q⟩⟩
    simp only [e, hc, r0, hin, true_and, i_cur (show B k 0 < 2 ^ 31 by omega)]
    refine ⟨fun z => ?_, fun z => ?_⟩
    · rw [if_neg z]
    · rw [if_pos z]
theorem or_0 (x : Int32) : x ||| 0 = x := by
  apply Int32.toBitVec_inj.mp
  simp
set_option maxRecDepth 100000 in
set_option maxHeartbeats 400000 in
theorem c_X7_setOf0 (T : TopM h) (W : WFB n B) (R : RMB n B h) : AC G jX7_setOf 4 0 0 [.ref 100, .int 0] h (Pu (.int (s_mask n (s_fp n B))) h) := by
  have T' := T
  unfold TopM at T
  have h31 := n31 W
  have lp : ∀ (k o : Nat), o + k = n → AW G 6 5 false cX7_setOf (Option.some FieldType.int) 4 (Pu (.int (s_mask n (s_fp n B))) h) 0 0 4 [(0, .ref 100), (1, .int 0), (2, .int (s_mask o (s_fp n B))), (3, .int (nI o))] [] h := by
    intro k
    induction k with
    | zero =>
      intro o ho
      have e : o = n := by omega
      subst e
      refine ax_wp_ok (cuts := [ 4]) 40 ?_
      simp only [lv_args, fn0, fn1, fn2, fn3, ax_wp_s, ax_step, ax_ins, ax_nx, ax_cut, ax_lk, ax_st1, ax_st2, ax_ins0, ax_tg, ax_go, ax_sw, ax_lsw, ax_kc_s, ax_kc_n, ax_rf_rf, ax_isR_rf, ct_int, ct_long, ct_ref, ct_null, ct_rf, rf_ref, rf_null, isR_ref, isR_null, va_rf_s, va_rf_n, gv_0, gv_1, gv_2, pv_i, pv_r, pv_n, pv_q, pk_0, pk_2, pk_2n, pk_2q, pk_10, pk_11, rok_i, rok_z0, rok_z1, ex_eq, ex_z, ex_z2, ex_cz, List.filter_cons, List.filter_nil, List.take_succ_cons, List.take_zero, List.drop_succ_cons, List.drop_zero, List.reverse_cons, List.reverse_nil, List.nil_append, List.cons_append, List.append_nil, List.length_cons, List.length_nil, List.map_cons, List.map_nil, List.sum_cons, List.sum_nil, Bool.not_true, Bool.not_false, Bool.and_true, Bool.true_and, Bool.and_false, Bool.false_and, Bool.or_false, Bool.false_or, Bool.true_or, Bool.or_true, beq_self_eq_true, Nat.reduceBEq, Nat.reduceAdd, Nat.reduceSub, Nat.reduceLT, Nat.reduceLeDiff, Nat.reduceEqDiff, Int.reduceAdd, Int.reduceNeg, Int.reduceToNat, Int.reduceLE, Int.reduceNatCast, Int.reduceNatCast', ite_true, ite_false, if_true, if_false, reduceIte, true_and, and_true, false_and, and_false, true_or, or_true, false_or, or_false, Nat.sub_zero, Nat.le_refl, Bool.false_eq_true, Bool.true_eq_false, false_implies, true_implies, implies_true, not_true_eq_false, not_false_eq_true, eq_self, Fin.isValue, Nat.zero_add, Nat.add_zero, and_self, ne_eq, b01, Int32.reduceLT, Int32.reduceLE, z32, z64, m_X7_setOf, dX7_setOf_0, ki_0, dX7_setOf_1, dX7_setOf_2, dX7_setOf_3, dX7_setOf_4, dX7_setOf_5, dX7_setOf_6, fl_6_84, dX7_setOf_9, dX7_setOf_12, dX7_setOf_13, dX7_setOf_16, dX7_setOf_17, dX7_setOf_18, cl_6_95, dX7_setOf_21, dX7_setOf_24, dX7_setOf_25, dX7_setOf_26, cl_6_98, dX7_setOf_29, dX7_setOf_31, dX7_setOf_32, dX7_setOf_34, dX7_setOf_37, ki_1, dX7_setOf_38, dX7_setOf_39, dX7_setOf_40, dX7_setOf_43, dX7_setOf_44, dX7_setOf_45, dX7_setOf_46, dX7_setOf_49, dX7_setOf_52, dX7_setOf_53, T, Pu, R.1, Int32.le_refl]
    | succ k ih =>
      intro o ho
      have hV : o < n := by omega
      have hlt : ¬ nI n ≤ nI o := nI_ge hV h31
      refine ax_wp_ok (cuts := [ 4]) 40 ?_
      simp only [lv_args, fn0, fn1, fn2, fn3, ax_wp_s, ax_step, ax_ins, ax_nx, ax_cut, ax_lk, ax_st1, ax_st2, ax_ins0, ax_tg, ax_go, ax_sw, ax_lsw, ax_kc_s, ax_kc_n, ax_rf_rf, ax_isR_rf, ct_int, ct_long, ct_ref, ct_null, ct_rf, rf_ref, rf_null, isR_ref, isR_null, va_rf_s, va_rf_n, gv_0, gv_1, gv_2, pv_i, pv_r, pv_n, pv_q, pk_0, pk_2, pk_2n, pk_2q, pk_10, pk_11, rok_i, rok_z0, rok_z1, ex_eq, ex_z, ex_z2, ex_cz, List.filter_cons, List.filter_nil, List.take_succ_cons, List.take_zero, List.drop_succ_cons, List.drop_zero, List.reverse_cons, List.reverse_nil, List.nil_append, List.cons_append, List.append_nil, List.length_cons, List.length_nil, List.map_cons, List.map_nil, List.sum_cons, List.sum_nil, Bool.not_true, Bool.not_false, Bool.and_true, Bool.true_and, Bool.and_false, Bool.false_and, Bool.or_false, Bool.false_or, Bool.true_or, Bool.or_true, beq_self_eq_true, Nat.reduceBEq, Nat.reduceAdd, Nat.reduceSub, Nat.reduceLT, Nat.reduceLeDiff, Nat.reduceEqDiff, Int.reduceAdd, Int.reduceNeg, Int.reduceToNat, Int.reduceLE, Int.reduceNatCast, Int.reduceNatCast', ite_true, ite_false, if_true, if_false, reduceIte, true_and, and_true, false_and, and_false, true_or, or_true, false_or, or_false, Nat.sub_zero, Nat.le_refl, Bool.false_eq_true, Bool.true_eq_false, false_implies, true_implies, implies_true, not_true_eq_false, not_false_eq_true, eq_self, Fin.isValue, Nat.zero_add, Nat.add_zero, and_self, ne_eq, b01, Int32.reduceLT, Int32.reduceLE, z32, z64, m_X7_setOf, dX7_setOf_0, ki_0, dX7_setOf_1, dX7_setOf_2, dX7_setOf_3, dX7_setOf_4, dX7_setOf_5, dX7_setOf_6, fl_6_84, dX7_setOf_9, dX7_setOf_12, dX7_setOf_13, dX7_setOf_16, dX7_setOf_17, dX7_setOf_18, cl_6_95, dX7_setOf_21, dX7_setOf_24, dX7_setOf_25, dX7_setOf_26, cl_6_98, dX7_setOf_29, dX7_setOf_31, dX7_setOf_32, dX7_setOf_34, dX7_setOf_37, ki_1, dX7_setOf_38, dX7_setOf_39, dX7_setOf_40, dX7_setOf_43, dX7_setOf_44, dX7_setOf_45, dX7_setOf_46, dX7_setOf_49, dX7_setOf_52, dX7_setOf_53, T, R.1, hlt]
      refine ax_pu (c_X7_isFireplace_n T' W R hV) (by decide) ?_
      simp only [lv_args, fn0, fn1, fn2, fn3, ax_wp_s, ax_step, ax_ins, ax_nx, ax_cut, ax_lk, ax_st1, ax_st2, ax_ins0, ax_tg, ax_go, ax_sw, ax_lsw, ax_kc_s, ax_kc_n, ax_rf_rf, ax_isR_rf, ct_int, ct_long, ct_ref, ct_null, ct_rf, rf_ref, rf_null, isR_ref, isR_null, va_rf_s, va_rf_n, gv_0, gv_1, gv_2, pv_i, pv_r, pv_n, pv_q, pk_0, pk_2, pk_2n, pk_2q, pk_10, pk_11, rok_i, rok_z0, rok_z1, ex_eq, ex_z, ex_z2, ex_cz, List.filter_cons, List.filter_nil, List.take_succ_cons, List.take_zero, List.drop_succ_cons, List.drop_zero, List.reverse_cons, List.reverse_nil, List.nil_append, List.cons_append, List.append_nil, List.length_cons, List.length_nil, List.map_cons, List.map_nil, List.sum_cons, List.sum_nil, Bool.not_true, Bool.not_false, Bool.and_true, Bool.true_and, Bool.and_false, Bool.false_and, Bool.or_false, Bool.false_or, Bool.true_or, Bool.or_true, beq_self_eq_true, Nat.reduceBEq, Nat.reduceAdd, Nat.reduceSub, Nat.reduceLT, Nat.reduceLeDiff, Nat.reduceEqDiff, Int.reduceAdd, Int.reduceNeg, Int.reduceToNat, Int.reduceLE, Int.reduceNatCast, Int.reduceNatCast', ite_true, ite_false, if_true, if_false, reduceIte, true_and, and_true, false_and, and_false, true_or, or_true, false_or, or_false, Nat.sub_zero, Nat.le_refl, Bool.false_eq_true, Bool.true_eq_false, false_implies, true_implies, implies_true, not_true_eq_false, not_false_eq_true, eq_self, Fin.isValue, Nat.zero_add, Nat.add_zero, and_self, ne_eq, b01, Int32.reduceLT, Int32.reduceLE, z32, z64, m_X7_setOf, dX7_setOf_0, ki_0, dX7_setOf_1, dX7_setOf_2, dX7_setOf_3, dX7_setOf_4, dX7_setOf_5, dX7_setOf_6, fl_6_84, dX7_setOf_9, dX7_setOf_12, dX7_setOf_13, dX7_setOf_16, dX7_setOf_17, dX7_setOf_18, cl_6_95, dX7_setOf_21, dX7_setOf_24, dX7_setOf_25, dX7_setOf_26, cl_6_98, dX7_setOf_29, dX7_setOf_31, dX7_setOf_32, dX7_setOf_34, dX7_setOf_37, ki_1, dX7_setOf_38, dX7_setOf_39, dX7_setOf_40, dX7_setOf_43, dX7_setOf_44, dX7_setOf_45, dX7_setOf_46, dX7_setOf_49, dX7_setOf_52, dX7_setOf_53, nI_1, or_0]
      have := ih (o + 1) (by omega)
      rw [s_mask_s] at this
      refine ⟨fun z => ?_, fun z => ?_⟩
      · rw [if_neg z] at this
        exact ax_sub (fun q hq => by simp at hq ⊢; rcases hq with h | h | h | h <;> simp [h]) this
      · rw [if_pos (Decidable.not_not.mp z)] at this
        exact ax_sub (fun q hq => by simp at hq ⊢; rcases hq with h | h | h | h <;> simp [h]) this
  refine ax_intro 6 false cdX7_setOf (by decide +kernel) (by decide +kernel) (by decide +kernel) (Nat.le_of_ble_eq_true rfl) ?_
  refine ax_wp_ok (cuts := [ 4]) 30 ?_
  simp only [lv_args, fn0, fn1, fn2, fn3, ax_wp_s, ax_step, ax_ins, ax_nx, ax_cut, ax_lk, ax_st1, ax_st2, ax_ins0, ax_tg, ax_go, ax_sw, ax_lsw, ax_kc_s, ax_kc_n, ax_rf_rf, ax_isR_rf, ct_int, ct_long, ct_ref, ct_null, ct_rf, rf_ref, rf_null, isR_ref, isR_null, va_rf_s, va_rf_n, gv_0, gv_1, gv_2, pv_i, pv_r, pv_n, pv_q, pk_0, pk_2, pk_2n, pk_2q, pk_10, pk_11, rok_i, rok_z0, rok_z1, ex_eq, ex_z, ex_z2, ex_cz, List.filter_cons, List.filter_nil, List.take_succ_cons, List.take_zero, List.drop_succ_cons, List.drop_zero, List.reverse_cons, List.reverse_nil, List.nil_append, List.cons_append, List.append_nil, List.length_cons, List.length_nil, List.map_cons, List.map_nil, List.sum_cons, List.sum_nil, Bool.not_true, Bool.not_false, Bool.and_true, Bool.true_and, Bool.and_false, Bool.false_and, Bool.or_false, Bool.false_or, Bool.true_or, Bool.or_true, beq_self_eq_true, Nat.reduceBEq, Nat.reduceAdd, Nat.reduceSub, Nat.reduceLT, Nat.reduceLeDiff, Nat.reduceEqDiff, Int.reduceAdd, Int.reduceNeg, Int.reduceToNat, Int.reduceLE, Int.reduceNatCast, Int.reduceNatCast', ite_true, ite_false, if_true, if_false, reduceIte, true_and, and_true, false_and, and_false, true_or, or_true, false_or, or_false, Nat.sub_zero, Nat.le_refl, Bool.false_eq_true, Bool.true_eq_false, false_implies, true_implies, implies_true, not_true_eq_false, not_false_eq_true, eq_self, Fin.isValue, Nat.zero_add, Nat.add_zero, and_self, ne_eq, b01, Int32.reduceLT, Int32.reduceLE, z32, z64, m_X7_setOf, dX7_setOf_0, ki_0, dX7_setOf_1, dX7_setOf_2, dX7_setOf_3, dX7_setOf_4, dX7_setOf_5, dX7_setOf_6, fl_6_84, dX7_setOf_9, dX7_setOf_12, dX7_setOf_13, dX7_setOf_16, dX7_setOf_17, dX7_setOf_18, cl_6_95, dX7_setOf_21, dX7_setOf_24, dX7_setOf_25, dX7_setOf_26, cl_6_98, dX7_setOf_29, dX7_setOf_31, dX7_setOf_32, dX7_setOf_34, dX7_setOf_37, ki_1, dX7_setOf_38, dX7_setOf_39, dX7_setOf_40, dX7_setOf_43, dX7_setOf_44, dX7_setOf_45, dX7_setOf_46, dX7_setOf_49, dX7_setOf_52, dX7_setOf_53, T]
  exact lp n 0 (by omega)
set_option maxRecDepth 100000 in
set_option maxHeartbeats 400000 in
theorem c_X7_setOf1 (T : TopM h) (W : WFB n B) (R : RMB n B h) : AC G jX7_setOf 4 0 0 [.ref 100, .int 1] h (Pu (.int (s_mask n (fun b => B b 0 == 0))) h) := by
  have T' := T
  unfold TopM at T
  have h31 := n31 W
  have lp : ∀ (k o : Nat), o + k = n → AW G 6 5 false cX7_setOf (Option.some FieldType.int) 4 (Pu (.int (s_mask n (fun b => B b 0 == 0))) h) 0 0 4 [(0, .ref 100), (1, .int 1), (2, .int (s_mask o (fun b => B b 0 == 0))), (3, .int (nI o))] [] h := by
    intro k
    induction k with
    | zero =>
      intro o ho
      have e : o = n := by omega
      subst e
      refine ax_wp_ok (cuts := [ 4]) 40 ?_
      simp only [lv_args, fn0, fn1, fn2, fn3, ax_wp_s, ax_step, ax_ins, ax_nx, ax_cut, ax_lk, ax_st1, ax_st2, ax_ins0, ax_tg, ax_go, ax_sw, ax_lsw, ax_kc_s, ax_kc_n, ax_rf_rf, ax_isR_rf, ct_int, ct_long, ct_ref, ct_null, ct_rf, rf_ref, rf_null, isR_ref, isR_null, va_rf_s, va_rf_n, gv_0, gv_1, gv_2, pv_i, pv_r, pv_n, pv_q, pk_0, pk_2, pk_2n, pk_2q, pk_10, pk_11, rok_i, rok_z0, rok_z1, ex_eq, ex_z, ex_z2, ex_cz, List.filter_cons, List.filter_nil, List.take_succ_cons, List.take_zero, List.drop_succ_cons, List.drop_zero, List.reverse_cons, List.reverse_nil, List.nil_append, List.cons_append, List.append_nil, List.length_cons, List.length_nil, List.map_cons, List.map_nil, List.sum_cons, List.sum_nil, Bool.not_true, Bool.not_false, Bool.and_true, Bool.true_and, Bool.and_false, Bool.false_and, Bool.or_false, Bool.false_or, Bool.true_or, Bool.or_true, beq_self_eq_true, Nat.reduceBEq, Nat.reduceAdd, Nat.reduceSub, Nat.reduceLT, Nat.reduceLeDiff, Nat.reduceEqDiff, Int.reduceAdd, Int.reduceNeg, Int.reduceToNat, Int.reduceLE, Int.reduceNatCast, Int.reduceNatCast', ite_true, ite_false, if_true, if_false, reduceIte, true_and, and_true, false_and, and_false, true_or, or_true, false_or, or_false, Nat.sub_zero, Nat.le_refl, Bool.false_eq_true, Bool.true_eq_false, false_implies, true_implies, implies_true, not_true_eq_false, not_false_eq_true, eq_self, Fin.isValue, Nat.zero_add, Nat.add_zero, and_self, ne_eq, b01, Int32.reduceLT, Int32.reduceLE, z32, z64, m_X7_setOf, dX7_setOf_0, ki_0, dX7_setOf_1, dX7_setOf_2, dX7_setOf_3, dX7_setOf_4, dX7_setOf_5, dX7_setOf_6, fl_6_84, dX7_setOf_9, dX7_setOf_12, dX7_setOf_13, dX7_setOf_16, dX7_setOf_17, dX7_setOf_18, cl_6_95, dX7_setOf_21, dX7_setOf_24, dX7_setOf_25, dX7_setOf_26, cl_6_98, dX7_setOf_29, dX7_setOf_31, dX7_setOf_32, dX7_setOf_34, dX7_setOf_37, ki_1, dX7_setOf_38, dX7_setOf_39, dX7_setOf_40, dX7_setOf_43, dX7_setOf_44, dX7_setOf_45, dX7_setOf_46, dX7_setOf_49, dX7_setOf_52, dX7_setOf_53, T, Pu, R.1, Int32.le_refl]
    | succ k ih =>
      intro o ho
      have hV : o < n := by omega
      have hlt : ¬ nI n ≤ nI o := nI_ge hV h31
      have hone : ¬ (1 : Int32) = 0 := by decide
      have hv31 : o < 2 ^ 31 := by have := W.1; omega
      have hc : (nI o).toNatClampNeg = o := nI_clamp hv31
      have hin : vp_in (nI o) 10 := vp_in_nI (by have := W.1; omega) (by decide)
      have hm1 : ¬ nI o = -1 := i_nm1 hv31
      obtain ⟨r0, r1, r2, r3, r4, r5, r6⟩ := R.2 o hV
      obtain ⟨w0, w1, w2, w2b, w3, w4, w5, w6⟩ := W.2 o hV
      refine ax_wp_ok (cuts := [ 4]) 40 ?_
      simp only [lv_args, fn0, fn1, fn2, fn3, ax_wp_s, ax_step, ax_ins, ax_nx, ax_cut, ax_lk, ax_st1, ax_st2, ax_ins0, ax_tg, ax_go, ax_sw, ax_lsw, ax_kc_s, ax_kc_n, ax_rf_rf, ax_isR_rf, ct_int, ct_long, ct_ref, ct_null, ct_rf, rf_ref, rf_null, isR_ref, isR_null, va_rf_s, va_rf_n, gv_0, gv_1, gv_2, pv_i, pv_r, pv_n, pv_q, pk_0, pk_2, pk_2n, pk_2q, pk_10, pk_11, rok_i, rok_z0, rok_z1, ex_eq, ex_z, ex_z2, ex_cz, List.filter_cons, List.filter_nil, List.take_succ_cons, List.take_zero, List.drop_succ_cons, List.drop_zero, List.reverse_cons, List.reverse_nil, List.nil_append, List.cons_append, List.append_nil, List.length_cons, List.length_nil, List.map_cons, List.map_nil, List.sum_cons, List.sum_nil, Bool.not_true, Bool.not_false, Bool.and_true, Bool.true_and, Bool.and_false, Bool.false_and, Bool.or_false, Bool.false_or, Bool.true_or, Bool.or_true, beq_self_eq_true, Nat.reduceBEq, Nat.reduceAdd, Nat.reduceSub, Nat.reduceLT, Nat.reduceLeDiff, Nat.reduceEqDiff, Int.reduceAdd, Int.reduceNeg, Int.reduceToNat, Int.reduceLE, Int.reduceNatCast, Int.reduceNatCast', ite_true, ite_false, if_true, if_false, reduceIte, true_and, and_true, false_and, and_false, true_or, or_true, false_or, or_false, Nat.sub_zero, Nat.le_refl, Bool.false_eq_true, Bool.true_eq_false, false_implies, true_implies, implies_true, not_true_eq_false, not_false_eq_true, eq_self, Fin.isValue, Nat.zero_add, Nat.add_zero, and_self, ne_eq, b01, Int32.reduceLT, Int32.reduceLE, z32, z64, m_X7_setOf, dX7_setOf_0, ki_0, dX7_setOf_1, dX7_setOf_2, dX7_setOf_3, dX7_setOf_4, dX7_setOf_5, dX7_setOf_6, fl_6_84, dX7_setOf_9, dX7_setOf_12, dX7_setOf_13, dX7_setOf_16, dX7_setOf_17, dX7_setOf_18, cl_6_95, dX7_setOf_21, dX7_setOf_24, dX7_setOf_25, dX7_setOf_26, cl_6_98, dX7_setOf_29, dX7_setOf_31, dX7_setOf_32, dX7_setOf_34, dX7_setOf_37, ki_1, dX7_setOf_38, dX7_setOf_39, dX7_setOf_40, dX7_setOf_43, dX7_setOf_44, dX7_setOf_45, dX7_setOf_46, dX7_setOf_49, dX7_setOf_52, dX7_setOf_53, T, R.1, hlt, hone]
      refine ax_pu (c_X7_isPot T' W R _) (by decide) ?_
      simp only [lv_args, fn0, fn1, fn2, fn3, ax_wp_s, ax_step, ax_ins, ax_nx, ax_cut, ax_lk, ax_st1, ax_st2, ax_ins0, ax_tg, ax_go, ax_sw, ax_lsw, ax_kc_s, ax_kc_n, ax_rf_rf, ax_isR_rf, ct_int, ct_long, ct_ref, ct_null, ct_rf, rf_ref, rf_null, isR_ref, isR_null, va_rf_s, va_rf_n, gv_0, gv_1, gv_2, pv_i, pv_r, pv_n, pv_q, pk_0, pk_2, pk_2n, pk_2q, pk_10, pk_11, rok_i, rok_z0, rok_z1, ex_eq, ex_z, ex_z2, ex_cz, List.filter_cons, List.filter_nil, List.take_succ_cons, List.take_zero, List.drop_succ_cons, List.drop_zero, List.reverse_cons, List.reverse_nil, List.nil_append, List.cons_append, List.append_nil, List.length_cons, List.length_nil, List.map_cons, List.map_nil, List.sum_cons, List.sum_nil, Bool.not_true, Bool.not_false, Bool.and_true, Bool.true_and, Bool.and_false, Bool.false_and, Bool.or_false, Bool.false_or, Bool.true_or, Bool.or_true, beq_self_eq_true, Nat.reduceBEq, Nat.reduceAdd, Nat.reduceSub, Nat.reduceLT, Nat.reduceLeDiff, Nat.reduceEqDiff, Int.reduceAdd, Int.reduceNeg, Int.reduceToNat, Int.reduceLE, Int.reduceNatCast, Int.reduceNatCast', ite_true, ite_false, if_true, if_false, reduceIte, true_and, and_true, false_and, and_false, true_or, or_true, false_or, or_false, Nat.sub_zero, Nat.le_refl, Bool.false_eq_true, Bool.true_eq_false, false_implies, true_implies, implies_true, not_true_eq_false, not_false_eq_true, eq_self, Fin.isValue, Nat.zero_add, Nat.add_zero, and_self, ne_eq, b01, Int32.reduceLT, Int32.reduceLE, z32, z64, m_X7_setOf, dX7_setOf_0, ki_0, dX7_setOf_1, dX7_setOf_2, dX7_setOf_3, dX7_setOf_4, dX7_setOf_5, dX7_setOf_6, fl_6_84, dX7_setOf_9, dX7_setOf_12, dX7_setOf_13, dX7_setOf_16, dX7_setOf_17, dX7_setOf_18, cl_6_95, dX7_setOf_21, dX7_setOf_24, dX7_setOf_25, dX7_setOf_26, cl_6_98, dX7_setOf_29, dX7_setOf_31, dX7_setOf_32, dX7_setOf_34, dX7_setOf_37, ki_1, dX7_setOf_38, dX7_setOf_39, dX7_setOf_40, dX7_setOf_43, dX7_setOf_44, dX7_setOf_45, dX7_setOf_46, dX7_setOf_49, dX7_setOf_52, dX7_setOf_53, nI_1, or_0]
      have := ih (o + 1) (by omega)
      rw [s_mask_s] at this
      have e : (s_ib n (nI o) ∧ B (nI o).toInt.toNat 0 = 0) ↔ (B o 0 == 0) = true := by
        rw [i_n hv31, beq_iff_eq]
        exact ⟨fun q => q.2, fun q => ⟨ib_n h31 hV, q⟩⟩
      simp only [e]
      refine ⟨fun z => ?_, fun z => ?_⟩
      · rw [if_neg z] at this
        exact ax_sub (fun q hq => by simp at hq ⊢; rcases hq with h | h | h | h <;> simp [h]) this
      · rw [if_pos (Decidable.not_not.mp z)] at this
        exact ax_sub (fun q hq => by simp at hq ⊢; rcases hq with h | h | h | h <;> simp [h]) this
  refine ax_intro 6 false cdX7_setOf (by decide +kernel) (by decide +kernel) (by decide +kernel) (Nat.le_of_ble_eq_true rfl) ?_
  refine ax_wp_ok (cuts := [ 4]) 30 ?_
  simp only [lv_args, fn0, fn1, fn2, fn3, ax_wp_s, ax_step, ax_ins, ax_nx, ax_cut, ax_lk, ax_st1, ax_st2, ax_ins0, ax_tg, ax_go, ax_sw, ax_lsw, ax_kc_s, ax_kc_n, ax_rf_rf, ax_isR_rf, ct_int, ct_long, ct_ref, ct_null, ct_rf, rf_ref, rf_null, isR_ref, isR_null, va_rf_s, va_rf_n, gv_0, gv_1, gv_2, pv_i, pv_r, pv_n, pv_q, pk_0, pk_2, pk_2n, pk_2q, pk_10, pk_11, rok_i, rok_z0, rok_z1, ex_eq, ex_z, ex_z2, ex_cz, List.filter_cons, List.filter_nil, List.take_succ_cons, List.take_zero, List.drop_succ_cons, List.drop_zero, List.reverse_cons, List.reverse_nil, List.nil_append, List.cons_append, List.append_nil, List.length_cons, List.length_nil, List.map_cons, List.map_nil, List.sum_cons, List.sum_nil, Bool.not_true, Bool.not_false, Bool.and_true, Bool.true_and, Bool.and_false, Bool.false_and, Bool.or_false, Bool.false_or, Bool.true_or, Bool.or_true, beq_self_eq_true, Nat.reduceBEq, Nat.reduceAdd, Nat.reduceSub, Nat.reduceLT, Nat.reduceLeDiff, Nat.reduceEqDiff, Int.reduceAdd, Int.reduceNeg, Int.reduceToNat, Int.reduceLE, Int.reduceNatCast, Int.reduceNatCast', ite_true, ite_false, if_true, if_false, reduceIte, true_and, and_true, false_and, and_false, true_or, or_true, false_or, or_false, Nat.sub_zero, Nat.le_refl, Bool.false_eq_true, Bool.true_eq_false, false_implies, true_implies, implies_true, not_true_eq_false, not_false_eq_true, eq_self, Fin.isValue, Nat.zero_add, Nat.add_zero, and_self, ne_eq, b01, Int32.reduceLT, Int32.reduceLE, z32, z64, m_X7_setOf, dX7_setOf_0, ki_0, dX7_setOf_1, dX7_setOf_2, dX7_setOf_3, dX7_setOf_4, dX7_setOf_5, dX7_setOf_6, fl_6_84, dX7_setOf_9, dX7_setOf_12, dX7_setOf_13, dX7_setOf_16, dX7_setOf_17, dX7_setOf_18, cl_6_95, dX7_setOf_21, dX7_setOf_24, dX7_setOf_25, dX7_setOf_26, cl_6_98, dX7_setOf_29, dX7_setOf_31, dX7_setOf_32, dX7_setOf_34, dX7_setOf_37, ki_1, dX7_setOf_38, dX7_setOf_39, dX7_setOf_40, dX7_setOf_43, dX7_setOf_44, dX7_setOf_45, dX7_setOf_46, dX7_setOf_49, dX7_setOf_52, dX7_setOf_53, T]
  exact lp n 0 (by omega)
set_option maxRecDepth 100000 in
set_option maxHeartbeats 400000 in
theorem c_X7_ones (x : Int32) : AC G jX7_ones 1 0 0 [.int x] h (Pu (.int (s_ones x 10)) h) := by
  have lp : ∀ (k o : Nat), o + k = 10 → AW G 6 3 false cX7_ones (Option.some FieldType.int) 1 (Pu (.int (s_ones x 10)) h) 0 0 4 [(0, .int x), (1, .int (s_ones x o)), (2, .int (nI o))] [] h := by
    intro k
    induction k with
    | zero =>
      intro o ho
      have e : o = 10 := by omega
      subst e
      have h10 : (10 : Int32) ≤ nI 10 := by decide
      refine ax_wp_ok (cuts := [ 4]) 40 ?_
      simp only [lv_args, fn0, fn1, fn2, fn3, ax_wp_s, ax_step, ax_ins, ax_nx, ax_cut, ax_lk, ax_st1, ax_st2, ax_ins0, ax_tg, ax_go, ax_sw, ax_lsw, ax_kc_s, ax_kc_n, ax_rf_rf, ax_isR_rf, ct_int, ct_long, ct_ref, ct_null, ct_rf, rf_ref, rf_null, isR_ref, isR_null, va_rf_s, va_rf_n, gv_0, gv_1, gv_2, pv_i, pv_r, pv_n, pv_q, pk_0, pk_2, pk_2n, pk_2q, pk_10, pk_11, rok_i, rok_z0, rok_z1, ex_eq, ex_z, ex_z2, ex_cz, List.filter_cons, List.filter_nil, List.take_succ_cons, List.take_zero, List.drop_succ_cons, List.drop_zero, List.reverse_cons, List.reverse_nil, List.nil_append, List.cons_append, List.append_nil, List.length_cons, List.length_nil, List.map_cons, List.map_nil, List.sum_cons, List.sum_nil, Bool.not_true, Bool.not_false, Bool.and_true, Bool.true_and, Bool.and_false, Bool.false_and, Bool.or_false, Bool.false_or, Bool.true_or, Bool.or_true, beq_self_eq_true, Nat.reduceBEq, Nat.reduceAdd, Nat.reduceSub, Nat.reduceLT, Nat.reduceLeDiff, Nat.reduceEqDiff, Int.reduceAdd, Int.reduceNeg, Int.reduceToNat, Int.reduceLE, Int.reduceNatCast, Int.reduceNatCast', ite_true, ite_false, if_true, if_false, reduceIte, true_and, and_true, false_and, and_false, true_or, or_true, false_or, or_false, Nat.sub_zero, Nat.le_refl, Bool.false_eq_true, Bool.true_eq_false, false_implies, true_implies, implies_true, not_true_eq_false, not_false_eq_true, eq_self, Fin.isValue, Nat.zero_add, Nat.add_zero, and_self, ne_eq, b01, Int32.reduceLT, Int32.reduceLE, z32, z64, m_X7_ones, dX7_ones_0, ki_0, dX7_ones_1, dX7_ones_2, dX7_ones_3, dX7_ones_4, dX7_ones_5, kb_10, dX7_ones_7, dX7_ones_10, dX7_ones_11, dX7_ones_12, dX7_ones_13, dX7_ones_14, ki_1, dX7_ones_15, dX7_ones_16, dX7_ones_17, dX7_ones_18, dX7_ones_21, dX7_ones_24, dX7_ones_25, Pu, h10]
    | succ k ih =>
      intro o ho
      have hlt : ¬ (10 : Int32) ≤ nI o := nI_ge (a := o) (b := 10) (by omega) (by decide)
      refine ax_wp_ok (cuts := [ 4]) 40 ?_
      simp only [lv_args, fn0, fn1, fn2, fn3, ax_wp_s, ax_step, ax_ins, ax_nx, ax_cut, ax_lk, ax_st1, ax_st2, ax_ins0, ax_tg, ax_go, ax_sw, ax_lsw, ax_kc_s, ax_kc_n, ax_rf_rf, ax_isR_rf, ct_int, ct_long, ct_ref, ct_null, ct_rf, rf_ref, rf_null, isR_ref, isR_null, va_rf_s, va_rf_n, gv_0, gv_1, gv_2, pv_i, pv_r, pv_n, pv_q, pk_0, pk_2, pk_2n, pk_2q, pk_10, pk_11, rok_i, rok_z0, rok_z1, ex_eq, ex_z, ex_z2, ex_cz, List.filter_cons, List.filter_nil, List.take_succ_cons, List.take_zero, List.drop_succ_cons, List.drop_zero, List.reverse_cons, List.reverse_nil, List.nil_append, List.cons_append, List.append_nil, List.length_cons, List.length_nil, List.map_cons, List.map_nil, List.sum_cons, List.sum_nil, Bool.not_true, Bool.not_false, Bool.and_true, Bool.true_and, Bool.and_false, Bool.false_and, Bool.or_false, Bool.false_or, Bool.true_or, Bool.or_true, beq_self_eq_true, Nat.reduceBEq, Nat.reduceAdd, Nat.reduceSub, Nat.reduceLT, Nat.reduceLeDiff, Nat.reduceEqDiff, Int.reduceAdd, Int.reduceNeg, Int.reduceToNat, Int.reduceLE, Int.reduceNatCast, Int.reduceNatCast', ite_true, ite_false, if_true, if_false, reduceIte, true_and, and_true, false_and, and_false, true_or, or_true, false_or, or_false, Nat.sub_zero, Nat.le_refl, Bool.false_eq_true, Bool.true_eq_false, false_implies, true_implies, implies_true, not_true_eq_false, not_false_eq_true, eq_self, Fin.isValue, Nat.zero_add, Nat.add_zero, and_self, ne_eq, b01, Int32.reduceLT, Int32.reduceLE, z32, z64, m_X7_ones, dX7_ones_0, ki_0, dX7_ones_1, dX7_ones_2, dX7_ones_3, dX7_ones_4, dX7_ones_5, kb_10, dX7_ones_7, dX7_ones_10, dX7_ones_11, dX7_ones_12, dX7_ones_13, dX7_ones_14, ki_1, dX7_ones_15, dX7_ones_16, dX7_ones_17, dX7_ones_18, dX7_ones_21, dX7_ones_24, dX7_ones_25, hlt, nI_1]
      exact ih (o + 1) (by omega)
  refine ax_intro 6 false cdX7_ones (by decide +kernel) (by decide +kernel) (by decide +kernel) (Nat.le_of_ble_eq_true rfl) ?_
  refine ax_wp_ok (cuts := [ 4]) 30 ?_
  simp only [lv_args, fn0, fn1, fn2, fn3, ax_wp_s, ax_step, ax_ins, ax_nx, ax_cut, ax_lk, ax_st1, ax_st2, ax_ins0, ax_tg, ax_go, ax_sw, ax_lsw, ax_kc_s, ax_kc_n, ax_rf_rf, ax_isR_rf, ct_int, ct_long, ct_ref, ct_null, ct_rf, rf_ref, rf_null, isR_ref, isR_null, va_rf_s, va_rf_n, gv_0, gv_1, gv_2, pv_i, pv_r, pv_n, pv_q, pk_0, pk_2, pk_2n, pk_2q, pk_10, pk_11, rok_i, rok_z0, rok_z1, ex_eq, ex_z, ex_z2, ex_cz, List.filter_cons, List.filter_nil, List.take_succ_cons, List.take_zero, List.drop_succ_cons, List.drop_zero, List.reverse_cons, List.reverse_nil, List.nil_append, List.cons_append, List.append_nil, List.length_cons, List.length_nil, List.map_cons, List.map_nil, List.sum_cons, List.sum_nil, Bool.not_true, Bool.not_false, Bool.and_true, Bool.true_and, Bool.and_false, Bool.false_and, Bool.or_false, Bool.false_or, Bool.true_or, Bool.or_true, beq_self_eq_true, Nat.reduceBEq, Nat.reduceAdd, Nat.reduceSub, Nat.reduceLT, Nat.reduceLeDiff, Nat.reduceEqDiff, Int.reduceAdd, Int.reduceNeg, Int.reduceToNat, Int.reduceLE, Int.reduceNatCast, Int.reduceNatCast', ite_true, ite_false, if_true, if_false, reduceIte, true_and, and_true, false_and, and_false, true_or, or_true, false_or, or_false, Nat.sub_zero, Nat.le_refl, Bool.false_eq_true, Bool.true_eq_false, false_implies, true_implies, implies_true, not_true_eq_false, not_false_eq_true, eq_self, Fin.isValue, Nat.zero_add, Nat.add_zero, and_self, ne_eq, b01, Int32.reduceLT, Int32.reduceLE, z32, z64, m_X7_ones, dX7_ones_0, ki_0, dX7_ones_1, dX7_ones_2, dX7_ones_3, dX7_ones_4, dX7_ones_5, kb_10, dX7_ones_7, dX7_ones_10, dX7_ones_11, dX7_ones_12, dX7_ones_13, dX7_ones_14, ki_1, dX7_ones_15, dX7_ones_16, dX7_ones_17, dX7_ones_18, dX7_ones_21, dX7_ones_24, dX7_ones_25]
  exact lp 10 0 (by omega)
set_option maxRecDepth 100000 in
set_option maxHeartbeats 400000 in
theorem c_X7_rodsOf (T : TopM h) (W : WFB n B) (R : RMB n B h) {k : Nat} (hk : k < n) : AC G jX7_rodsOf 1 0 0 [.ref 100, .int (nI k)] h (Pu (.int (s_sum B 2 (s_fl B (k + 1)) 0)) h) := by
  unfold TopM at T
  have lp : ∀ (u : Nat) (acc : Int32), u ≤ n → s_sum B 2 (s_fl B u) acc = s_sum B 2 (s_fl B (k + 1)) 0 → AW G 6 4 false cX7_rodsOf (Option.some FieldType.int) 1 (Pu (.int (s_sum B 2 (s_fl B (k + 1)) 0)) h) 0 0 4 [(0, .ref 100), (1, .int (nI k)), (2, .int acc), (3, .int (nI u - 1))] [] h := by
    intro u
    induction u using Nat.strongRecOn with
    | _ u ih =>
      intro acc hu ha
      cases u with
      | zero =>
        refine ax_wp_ok (cuts := [ 4]) 40 ?_
        simp only [lv_args, fn0, fn1, fn2, fn3, ax_wp_s, ax_step, ax_ins, ax_nx, ax_cut, ax_lk, ax_st1, ax_st2, ax_ins0, ax_tg, ax_go, ax_sw, ax_lsw, ax_kc_s, ax_kc_n, ax_rf_rf, ax_isR_rf, ct_int, ct_long, ct_ref, ct_null, ct_rf, rf_ref, rf_null, isR_ref, isR_null, va_rf_s, va_rf_n, gv_0, gv_1, gv_2, pv_i, pv_r, pv_n, pv_q, pk_0, pk_2, pk_2n, pk_2q, pk_10, pk_11, rok_i, rok_z0, rok_z1, ex_eq, ex_z, ex_z2, ex_cz, List.filter_cons, List.filter_nil, List.take_succ_cons, List.take_zero, List.drop_succ_cons, List.drop_zero, List.reverse_cons, List.reverse_nil, List.nil_append, List.cons_append, List.append_nil, List.length_cons, List.length_nil, List.map_cons, List.map_nil, List.sum_cons, List.sum_nil, Bool.not_true, Bool.not_false, Bool.and_true, Bool.true_and, Bool.and_false, Bool.false_and, Bool.or_false, Bool.false_or, Bool.true_or, Bool.or_true, beq_self_eq_true, Nat.reduceBEq, Nat.reduceAdd, Nat.reduceSub, Nat.reduceLT, Nat.reduceLeDiff, Nat.reduceEqDiff, Int.reduceAdd, Int.reduceNeg, Int.reduceToNat, Int.reduceLE, Int.reduceNatCast, Int.reduceNatCast', ite_true, ite_false, if_true, if_false, reduceIte, true_and, and_true, false_and, and_false, true_or, or_true, false_or, or_false, Nat.sub_zero, Nat.le_refl, Bool.false_eq_true, Bool.true_eq_false, false_implies, true_implies, implies_true, not_true_eq_false, not_false_eq_true, eq_self, Fin.isValue, Nat.zero_add, Nat.add_zero, and_self, ne_eq, b01, Int32.reduceLT, Int32.reduceLE, z32, z64, m_X7_rodsOf, dX7_rodsOf_0, ki_0, dX7_rodsOf_1, dX7_rodsOf_2, dX7_rodsOf_3, dX7_rodsOf_4, dX7_rodsOf_5, ki_m1, dX7_rodsOf_6, dX7_rodsOf_9, dX7_rodsOf_10, dX7_rodsOf_11, fl_6_16, dX7_rodsOf_14, dX7_rodsOf_15, dX7_rodsOf_16, dX7_rodsOf_17, dX7_rodsOf_18, dX7_rodsOf_19, fl_6_7, dX7_rodsOf_22, dX7_rodsOf_23, dX7_rodsOf_24, dX7_rodsOf_25, dX7_rodsOf_28, dX7_rodsOf_29, T, Pu, i_m1m]
        rw [← ha]
        rfl
      | succ v =>
        have hV : v < n := by omega
        have hv31 : v < 2 ^ 31 := by have := W.1; omega
        have hc : (nI v).toNatClampNeg = v := nI_clamp hv31
        have hin : vp_in (nI v) 10 := vp_in_nI (by have := W.1; omega) (by decide)
        have hm1 : ¬ nI v = -1 := i_nm1 hv31
        obtain ⟨r0, r1, r2, r3, r4, r5, r6⟩ := R.2 v hV
        obtain ⟨w0, w1, w2, w2b, w3, w4, w5, w6⟩ := W.2 v hV
        rw [i_m1]
        refine ax_wp_ok (cuts := [ 4]) 40 ?_
        simp only [lv_args, fn0, fn1, fn2, fn3, ax_wp_s, ax_step, ax_ins, ax_nx, ax_cut, ax_lk, ax_st1, ax_st2, ax_ins0, ax_tg, ax_go, ax_sw, ax_lsw, ax_kc_s, ax_kc_n, ax_rf_rf, ax_isR_rf, ct_int, ct_long, ct_ref, ct_null, ct_rf, rf_ref, rf_null, isR_ref, isR_null, va_rf_s, va_rf_n, gv_0, gv_1, gv_2, pv_i, pv_r, pv_n, pv_q, pk_0, pk_2, pk_2n, pk_2q, pk_10, pk_11, rok_i, rok_z0, rok_z1, ex_eq, ex_z, ex_z2, ex_cz, List.filter_cons, List.filter_nil, List.take_succ_cons, List.take_zero, List.drop_succ_cons, List.drop_zero, List.reverse_cons, List.reverse_nil, List.nil_append, List.cons_append, List.append_nil, List.length_cons, List.length_nil, List.map_cons, List.map_nil, List.sum_cons, List.sum_nil, Bool.not_true, Bool.not_false, Bool.and_true, Bool.true_and, Bool.and_false, Bool.false_and, Bool.or_false, Bool.false_or, Bool.true_or, Bool.or_true, beq_self_eq_true, Nat.reduceBEq, Nat.reduceAdd, Nat.reduceSub, Nat.reduceLT, Nat.reduceLeDiff, Nat.reduceEqDiff, Int.reduceAdd, Int.reduceNeg, Int.reduceToNat, Int.reduceLE, Int.reduceNatCast, Int.reduceNatCast', ite_true, ite_false, if_true, if_false, reduceIte, true_and, and_true, false_and, and_false, true_or, or_true, false_or, or_false, Nat.sub_zero, Nat.le_refl, Bool.false_eq_true, Bool.true_eq_false, false_implies, true_implies, implies_true, not_true_eq_false, not_false_eq_true, eq_self, Fin.isValue, Nat.zero_add, Nat.add_zero, and_self, ne_eq, b01, Int32.reduceLT, Int32.reduceLE, z32, z64, m_X7_rodsOf, dX7_rodsOf_0, ki_0, dX7_rodsOf_1, dX7_rodsOf_2, dX7_rodsOf_3, dX7_rodsOf_4, dX7_rodsOf_5, ki_m1, dX7_rodsOf_6, dX7_rodsOf_9, dX7_rodsOf_10, dX7_rodsOf_11, fl_6_16, dX7_rodsOf_14, dX7_rodsOf_15, dX7_rodsOf_16, dX7_rodsOf_17, dX7_rodsOf_18, dX7_rodsOf_19, fl_6_7, dX7_rodsOf_22, dX7_rodsOf_23, dX7_rodsOf_24, dX7_rodsOf_25, dX7_rodsOf_28, dX7_rodsOf_29, T, Pu, hc, hin, hm1, r0, r2]
        refine ih (B v 0) (by omega) _ (by omega) ?_
        rw [← ha, s_fl_s W hV]
        rfl
  refine ax_intro 6 false cdX7_rodsOf (by decide +kernel) (by decide +kernel) (by decide +kernel) (Nat.le_of_ble_eq_true rfl) ?_
  refine ax_wp_ok (cuts := [ 4]) 30 ?_
  simp only [lv_args, fn0, fn1, fn2, fn3, ax_wp_s, ax_step, ax_ins, ax_nx, ax_cut, ax_lk, ax_st1, ax_st2, ax_ins0, ax_tg, ax_go, ax_sw, ax_lsw, ax_kc_s, ax_kc_n, ax_rf_rf, ax_isR_rf, ct_int, ct_long, ct_ref, ct_null, ct_rf, rf_ref, rf_null, isR_ref, isR_null, va_rf_s, va_rf_n, gv_0, gv_1, gv_2, pv_i, pv_r, pv_n, pv_q, pk_0, pk_2, pk_2n, pk_2q, pk_10, pk_11, rok_i, rok_z0, rok_z1, ex_eq, ex_z, ex_z2, ex_cz, List.filter_cons, List.filter_nil, List.take_succ_cons, List.take_zero, List.drop_succ_cons, List.drop_zero, List.reverse_cons, List.reverse_nil, List.nil_append, List.cons_append, List.append_nil, List.length_cons, List.length_nil, List.map_cons, List.map_nil, List.sum_cons, List.sum_nil, Bool.not_true, Bool.not_false, Bool.and_true, Bool.true_and, Bool.and_false, Bool.false_and, Bool.or_false, Bool.false_or, Bool.true_or, Bool.or_true, beq_self_eq_true, Nat.reduceBEq, Nat.reduceAdd, Nat.reduceSub, Nat.reduceLT, Nat.reduceLeDiff, Nat.reduceEqDiff, Int.reduceAdd, Int.reduceNeg, Int.reduceToNat, Int.reduceLE, Int.reduceNatCast, Int.reduceNatCast', ite_true, ite_false, if_true, if_false, reduceIte, true_and, and_true, false_and, and_false, true_or, or_true, false_or, or_false, Nat.sub_zero, Nat.le_refl, Bool.false_eq_true, Bool.true_eq_false, false_implies, true_implies, implies_true, not_true_eq_false, not_false_eq_true, eq_self, Fin.isValue, Nat.zero_add, Nat.add_zero, and_self, ne_eq, b01, Int32.reduceLT, Int32.reduceLE, z32, z64, m_X7_rodsOf, dX7_rodsOf_0, ki_0, dX7_rodsOf_1, dX7_rodsOf_2, dX7_rodsOf_3, dX7_rodsOf_4, dX7_rodsOf_5, ki_m1, dX7_rodsOf_6, dX7_rodsOf_9, dX7_rodsOf_10, dX7_rodsOf_11, fl_6_16, dX7_rodsOf_14, dX7_rodsOf_15, dX7_rodsOf_16, dX7_rodsOf_17, dX7_rodsOf_18, dX7_rodsOf_19, fl_6_7, dX7_rodsOf_22, dX7_rodsOf_23, dX7_rodsOf_24, dX7_rodsOf_25, dX7_rodsOf_28, dX7_rodsOf_29, T]
  have := lp (k + 1) 0 (by omega) rfl
  rw [i_m1] at this
  exact this
set_option maxRecDepth 100000 in
set_option maxHeartbeats 400000 in
theorem c_X7_sootOf (T : TopM h) (W : WFB n B) (R : RMB n B h) {k : Nat} (hk : k < n) : AC G jX7_sootOf 1 0 0 [.ref 100, .int (nI k)] h (Pu (.int (s_sum B 6 (s_fl B (k + 1)) 0)) h) := by
  unfold TopM at T
  have lp : ∀ (u : Nat) (acc : Int32), u ≤ n → s_sum B 6 (s_fl B u) acc = s_sum B 6 (s_fl B (k + 1)) 0 → AW G 6 4 false cX7_sootOf (Option.some FieldType.int) 1 (Pu (.int (s_sum B 6 (s_fl B (k + 1)) 0)) h) 0 0 4 [(0, .ref 100), (1, .int (nI k)), (2, .int acc), (3, .int (nI u - 1))] [] h := by
    intro u
    induction u using Nat.strongRecOn with
    | _ u ih =>
      intro acc hu ha
      cases u with
      | zero =>
        refine ax_wp_ok (cuts := [ 4]) 40 ?_
        simp only [lv_args, fn0, fn1, fn2, fn3, ax_wp_s, ax_step, ax_ins, ax_nx, ax_cut, ax_lk, ax_st1, ax_st2, ax_ins0, ax_tg, ax_go, ax_sw, ax_lsw, ax_kc_s, ax_kc_n, ax_rf_rf, ax_isR_rf, ct_int, ct_long, ct_ref, ct_null, ct_rf, rf_ref, rf_null, isR_ref, isR_null, va_rf_s, va_rf_n, gv_0, gv_1, gv_2, pv_i, pv_r, pv_n, pv_q, pk_0, pk_2, pk_2n, pk_2q, pk_10, pk_11, rok_i, rok_z0, rok_z1, ex_eq, ex_z, ex_z2, ex_cz, List.filter_cons, List.filter_nil, List.take_succ_cons, List.take_zero, List.drop_succ_cons, List.drop_zero, List.reverse_cons, List.reverse_nil, List.nil_append, List.cons_append, List.append_nil, List.length_cons, List.length_nil, List.map_cons, List.map_nil, List.sum_cons, List.sum_nil, Bool.not_true, Bool.not_false, Bool.and_true, Bool.true_and, Bool.and_false, Bool.false_and, Bool.or_false, Bool.false_or, Bool.true_or, Bool.or_true, beq_self_eq_true, Nat.reduceBEq, Nat.reduceAdd, Nat.reduceSub, Nat.reduceLT, Nat.reduceLeDiff, Nat.reduceEqDiff, Int.reduceAdd, Int.reduceNeg, Int.reduceToNat, Int.reduceLE, Int.reduceNatCast, Int.reduceNatCast', ite_true, ite_false, if_true, if_false, reduceIte, true_and, and_true, false_and, and_false, true_or, or_true, false_or, or_false, Nat.sub_zero, Nat.le_refl, Bool.false_eq_true, Bool.true_eq_false, false_implies, true_implies, implies_true, not_true_eq_false, not_false_eq_true, eq_self, Fin.isValue, Nat.zero_add, Nat.add_zero, and_self, ne_eq, b01, Int32.reduceLT, Int32.reduceLE, z32, z64, m_X7_sootOf, dX7_sootOf_0, ki_0, dX7_sootOf_1, dX7_sootOf_2, dX7_sootOf_3, dX7_sootOf_4, dX7_sootOf_5, ki_m1, dX7_sootOf_6, dX7_sootOf_9, dX7_sootOf_10, dX7_sootOf_11, fl_6_28, dX7_sootOf_14, dX7_sootOf_15, dX7_sootOf_16, dX7_sootOf_17, dX7_sootOf_18, dX7_sootOf_19, fl_6_7, dX7_sootOf_22, dX7_sootOf_23, dX7_sootOf_24, dX7_sootOf_25, dX7_sootOf_28, dX7_sootOf_29, T, Pu, i_m1m]
        rw [← ha]
        rfl
      | succ v =>
        have hV : v < n := by omega
        have hv31 : v < 2 ^ 31 := by have := W.1; omega
        have hc : (nI v).toNatClampNeg = v := nI_clamp hv31
        have hin : vp_in (nI v) 10 := vp_in_nI (by have := W.1; omega) (by decide)
        have hm1 : ¬ nI v = -1 := i_nm1 hv31
        obtain ⟨r0, r1, r2, r3, r4, r5, r6⟩ := R.2 v hV
        obtain ⟨w0, w1, w2, w2b, w3, w4, w5, w6⟩ := W.2 v hV
        rw [i_m1]
        refine ax_wp_ok (cuts := [ 4]) 40 ?_
        simp only [lv_args, fn0, fn1, fn2, fn3, ax_wp_s, ax_step, ax_ins, ax_nx, ax_cut, ax_lk, ax_st1, ax_st2, ax_ins0, ax_tg, ax_go, ax_sw, ax_lsw, ax_kc_s, ax_kc_n, ax_rf_rf, ax_isR_rf, ct_int, ct_long, ct_ref, ct_null, ct_rf, rf_ref, rf_null, isR_ref, isR_null, va_rf_s, va_rf_n, gv_0, gv_1, gv_2, pv_i, pv_r, pv_n, pv_q, pk_0, pk_2, pk_2n, pk_2q, pk_10, pk_11, rok_i, rok_z0, rok_z1, ex_eq, ex_z, ex_z2, ex_cz, List.filter_cons, List.filter_nil, List.take_succ_cons, List.take_zero, List.drop_succ_cons, List.drop_zero, List.reverse_cons, List.reverse_nil, List.nil_append, List.cons_append, List.append_nil, List.length_cons, List.length_nil, List.map_cons, List.map_nil, List.sum_cons, List.sum_nil, Bool.not_true, Bool.not_false, Bool.and_true, Bool.true_and, Bool.and_false, Bool.false_and, Bool.or_false, Bool.false_or, Bool.true_or, Bool.or_true, beq_self_eq_true, Nat.reduceBEq, Nat.reduceAdd, Nat.reduceSub, Nat.reduceLT, Nat.reduceLeDiff, Nat.reduceEqDiff, Int.reduceAdd, Int.reduceNeg, Int.reduceToNat, Int.reduceLE, Int.reduceNatCast, Int.reduceNatCast', ite_true, ite_false, if_true, if_false, reduceIte, true_and, and_true, false_and, and_false, true_or, or_true, false_or, or_false, Nat.sub_zero, Nat.le_refl, Bool.false_eq_true, Bool.true_eq_false, false_implies, true_implies, implies_true, not_true_eq_false, not_false_eq_true, eq_self, Fin.isValue, Nat.zero_add, Nat.add_zero, and_self, ne_eq, b01, Int32.reduceLT, Int32.reduceLE, z32, z64, m_X7_sootOf, dX7_sootOf_0, ki_0, dX7_sootOf_1, dX7_sootOf_2, dX7_sootOf_3, dX7_sootOf_4, dX7_sootOf_5, ki_m1, dX7_sootOf_6, dX7_sootOf_9, dX7_sootOf_10, dX7_sootOf_11, fl_6_28, dX7_sootOf_14, dX7_sootOf_15, dX7_sootOf_16, dX7_sootOf_17, dX7_sootOf_18, dX7_sootOf_19, fl_6_7, dX7_sootOf_22, dX7_sootOf_23, dX7_sootOf_24, dX7_sootOf_25, dX7_sootOf_28, dX7_sootOf_29, T, Pu, hc, hin, hm1, r0, r6]
        refine ih (B v 0) (by omega) _ (by omega) ?_
        rw [← ha, s_fl_s W hV]
        rfl
  refine ax_intro 6 false cdX7_sootOf (by decide +kernel) (by decide +kernel) (by decide +kernel) (Nat.le_of_ble_eq_true rfl) ?_
  refine ax_wp_ok (cuts := [ 4]) 30 ?_
  simp only [lv_args, fn0, fn1, fn2, fn3, ax_wp_s, ax_step, ax_ins, ax_nx, ax_cut, ax_lk, ax_st1, ax_st2, ax_ins0, ax_tg, ax_go, ax_sw, ax_lsw, ax_kc_s, ax_kc_n, ax_rf_rf, ax_isR_rf, ct_int, ct_long, ct_ref, ct_null, ct_rf, rf_ref, rf_null, isR_ref, isR_null, va_rf_s, va_rf_n, gv_0, gv_1, gv_2, pv_i, pv_r, pv_n, pv_q, pk_0, pk_2, pk_2n, pk_2q, pk_10, pk_11, rok_i, rok_z0, rok_z1, ex_eq, ex_z, ex_z2, ex_cz, List.filter_cons, List.filter_nil, List.take_succ_cons, List.take_zero, List.drop_succ_cons, List.drop_zero, List.reverse_cons, List.reverse_nil, List.nil_append, List.cons_append, List.append_nil, List.length_cons, List.length_nil, List.map_cons, List.map_nil, List.sum_cons, List.sum_nil, Bool.not_true, Bool.not_false, Bool.and_true, Bool.true_and, Bool.and_false, Bool.false_and, Bool.or_false, Bool.false_or, Bool.true_or, Bool.or_true, beq_self_eq_true, Nat.reduceBEq, Nat.reduceAdd, Nat.reduceSub, Nat.reduceLT, Nat.reduceLeDiff, Nat.reduceEqDiff, Int.reduceAdd, Int.reduceNeg, Int.reduceToNat, Int.reduceLE, Int.reduceNatCast, Int.reduceNatCast', ite_true, ite_false, if_true, if_false, reduceIte, true_and, and_true, false_and, and_false, true_or, or_true, false_or, or_false, Nat.sub_zero, Nat.le_refl, Bool.false_eq_true, Bool.true_eq_false, false_implies, true_implies, implies_true, not_true_eq_false, not_false_eq_true, eq_self, Fin.isValue, Nat.zero_add, Nat.add_zero, and_self, ne_eq, b01, Int32.reduceLT, Int32.reduceLE, z32, z64, m_X7_sootOf, dX7_sootOf_0, ki_0, dX7_sootOf_1, dX7_sootOf_2, dX7_sootOf_3, dX7_sootOf_4, dX7_sootOf_5, ki_m1, dX7_sootOf_6, dX7_sootOf_9, dX7_sootOf_10, dX7_sootOf_11, fl_6_28, dX7_sootOf_14, dX7_sootOf_15, dX7_sootOf_16, dX7_sootOf_17, dX7_sootOf_18, dX7_sootOf_19, fl_6_7, dX7_sootOf_22, dX7_sootOf_23, dX7_sootOf_24, dX7_sootOf_25, dX7_sootOf_28, dX7_sootOf_29, T]
  have := lp (k + 1) 0 (by omega) rfl
  rw [i_m1] at this
  exact this
def s_last (B : SB) (u : Nat) : Nat := (s_fl B u).getLastD 0
set_option maxRecDepth 100000 in
set_option maxHeartbeats 400000 in
theorem c_X7_lastOf (T : TopM h) (W : WFB n B) (R : RMB n B h) {k : Nat} (hk : k < n) : AC G jX7_lastOf 1 0 0 [.ref 100, .int (nI k)] h (Pu (.int (nI (s_last B (k + 1)))) h) := by
  unfold TopM at T
  have lp : ∀ (v : Nat), v < n → s_last B (v + 1) = s_last B (k + 1) → AW G 6 3 false cX7_lastOf (Option.some FieldType.int) 1 (Pu (.int (nI (s_last B (k + 1)))) h) 0 0 2 [(0, .ref 100), (1, .int (nI k)), (2, .int (nI v))] [] h := by
    intro v
    induction v using Nat.strongRecOn with
    | _ v ih =>
      intro hV ha
      have hv31 : v < 2 ^ 31 := by have := W.1; omega
      have hc : (nI v).toNatClampNeg = v := nI_clamp hv31
      have hin : vp_in (nI v) 10 := vp_in_nI (by have := W.1; omega) (by decide)
      have hm1 : ¬ nI v = -1 := i_nm1 hv31
      obtain ⟨r0, r1, r2, r3, r4, r5, r6⟩ := R.2 v hV
      obtain ⟨w0, w1, w2, w2b, w3, w4, w5, w6⟩ := W.2 v hV
      refine ax_wp_ok (cuts := [ 2]) 40 ?_
      simp only [lv_args, fn0, fn1, fn2, fn3, ax_wp_s, ax_step, ax_ins, ax_nx, ax_cut, ax_lk, ax_st1, ax_st2, ax_ins0, ax_tg, ax_go, ax_sw, ax_lsw, ax_kc_s, ax_kc_n, ax_rf_rf, ax_isR_rf, ct_int, ct_long, ct_ref, ct_null, ct_rf, rf_ref, rf_null, isR_ref, isR_null, va_rf_s, va_rf_n, gv_0, gv_1, gv_2, pv_i, pv_r, pv_n, pv_q, pk_0, pk_2, pk_2n, pk_2q, pk_10, pk_11, rok_i, rok_z0, rok_z1, ex_eq, ex_z, ex_z2, ex_cz, List.filter_cons, List.filter_nil, List.take_succ_cons, List.take_zero, List.drop_succ_cons, List.drop_zero, List.reverse_cons, List.reverse_nil, List.nil_append, List.cons_append, List.append_nil, List.length_cons, List.length_nil, List.map_cons, List.map_nil, List.sum_cons, List.sum_nil, Bool.not_true, Bool.not_false, Bool.and_true, Bool.true_and, Bool.and_false, Bool.false_and, Bool.or_false, Bool.false_or, Bool.true_or, Bool.or_true, beq_self_eq_true, Nat.reduceBEq, Nat.reduceAdd, Nat.reduceSub, Nat.reduceLT, Nat.reduceLeDiff, Nat.reduceEqDiff, Int.reduceAdd, Int.reduceNeg, Int.reduceToNat, Int.reduceLE, Int.reduceNatCast, Int.reduceNatCast', ite_true, ite_false, if_true, if_false, reduceIte, true_and, and_true, false_and, and_false, true_or, or_true, false_or, or_false, Nat.sub_zero, Nat.le_refl, Bool.false_eq_true, Bool.true_eq_false, false_implies, true_implies, implies_true, not_true_eq_false, not_false_eq_true, eq_self, Fin.isValue, Nat.zero_add, Nat.add_zero, and_self, ne_eq, b01, Int32.reduceLT, Int32.reduceLE, z32, z64, m_X7_lastOf, dX7_lastOf_0, dX7_lastOf_1, dX7_lastOf_2, dX7_lastOf_3, fl_6_7, dX7_lastOf_6, dX7_lastOf_7, dX7_lastOf_8, ki_m1, dX7_lastOf_9, dX7_lastOf_12, dX7_lastOf_13, dX7_lastOf_16, dX7_lastOf_17, dX7_lastOf_18, dX7_lastOf_19, dX7_lastOf_22, dX7_lastOf_23, T, Pu, hc, hin, r0]
      rw [i_cur (by omega)]
      unfold s_last at ha
      rw [s_fl_s W hV] at ha
      refine ⟨fun z => ?_, fun z => ?_⟩
      · rw [z] at ha
        unfold s_last
        rw [← ha]
        rfl
      · obtain ⟨w, hw⟩ : ∃ w, B v 0 = w + 1 := ⟨B v 0 - 1, by omega⟩
        rw [hw, i_m1]
        refine ih w (by omega) (by omega) ?_
        unfold s_last
        rw [← ha, hw, s_fl_s W (show w < n by omega)]
        rfl
  refine ax_intro 6 false cdX7_lastOf (by decide +kernel) (by decide +kernel) (by decide +kernel) (Nat.le_of_ble_eq_true rfl) ?_
  refine ax_wp_ok (cuts := [ 2]) 30 ?_
  simp only [lv_args, fn0, fn1, fn2, fn3, ax_wp_s, ax_step, ax_ins, ax_nx, ax_cut, ax_lk, ax_st1, ax_st2, ax_ins0, ax_tg, ax_go, ax_sw, ax_lsw, ax_kc_s, ax_kc_n, ax_rf_rf, ax_isR_rf, ct_int, ct_long, ct_ref, ct_null, ct_rf, rf_ref, rf_null, isR_ref, isR_null, va_rf_s, va_rf_n, gv_0, gv_1, gv_2, pv_i, pv_r, pv_n, pv_q, pk_0, pk_2, pk_2n, pk_2q, pk_10, pk_11, rok_i, rok_z0, rok_z1, ex_eq, ex_z, ex_z2, ex_cz, List.filter_cons, List.filter_nil, List.take_succ_cons, List.take_zero, List.drop_succ_cons, List.drop_zero, List.reverse_cons, List.reverse_nil, List.nil_append, List.cons_append, List.append_nil, List.length_cons, List.length_nil, List.map_cons, List.map_nil, List.sum_cons, List.sum_nil, Bool.not_true, Bool.not_false, Bool.and_true, Bool.true_and, Bool.and_false, Bool.false_and, Bool.or_false, Bool.false_or, Bool.true_or, Bool.or_true, beq_self_eq_true, Nat.reduceBEq, Nat.reduceAdd, Nat.reduceSub, Nat.reduceLT, Nat.reduceLeDiff, Nat.reduceEqDiff, Int.reduceAdd, Int.reduceNeg, Int.reduceToNat, Int.reduceLE, Int.reduceNatCast, Int.reduceNatCast', ite_true, ite_false, if_true, if_false, reduceIte, true_and, and_true, false_and, and_false, true_or, or_true, false_or, or_false, Nat.sub_zero, Nat.le_refl, Bool.false_eq_true, Bool.true_eq_false, false_implies, true_implies, implies_true, not_true_eq_false, not_false_eq_true, eq_self, Fin.isValue, Nat.zero_add, Nat.add_zero, and_self, ne_eq, b01, Int32.reduceLT, Int32.reduceLE, z32, z64, m_X7_lastOf, dX7_lastOf_0, dX7_lastOf_1, dX7_lastOf_2, dX7_lastOf_3, fl_6_7, dX7_lastOf_6, dX7_lastOf_7, dX7_lastOf_8, ki_m1, dX7_lastOf_9, dX7_lastOf_12, dX7_lastOf_13, dX7_lastOf_16, dX7_lastOf_17, dX7_lastOf_18, dX7_lastOf_19, dX7_lastOf_22, dX7_lastOf_23, T]
  exact lp k hk rfl
set_option maxRecDepth 100000 in
set_option maxHeartbeats 400000 in
theorem c_X7_reached (T : TopM h) (W : WFB n B) (R : RMB n B h) {k left : Nat} (hk : k < n) (hl : left < 100) : AC G jX7_reached 1 0 0 [.ref 100, .int (nI k), .int (nI left)] h (Pu (.int (nI (s_rch B (s_fl B (k + 1)) left) - 1)) h) := by
  unfold TopM at T
  have lp : ∀ (u l : Nat), u ≤ n → l < 100 → s_rch B (s_fl B u) l = s_rch B (s_fl B (k + 1)) left → AW G 6 5 false cX7_reached (Option.some FieldType.int) 1 (Pu (.int (nI (s_rch B (s_fl B (k + 1)) left) - 1)) h) 0 0 5 [(0, .ref 100), (1, .int (nI k)), (2, .int (nI left)), (3, .int (nI l)), (4, .int (nI u - 1))] [] h := by
    intro u
    induction u using Nat.strongRecOn with
    | _ u ih =>
      intro l hu hl2 ha
      cases u with
      | zero =>
        refine ax_wp_ok (cuts := [ 5]) 40 ?_
        simp only [lv_args, fn0, fn1, fn2, fn3, ax_wp_s, ax_step, ax_ins, ax_nx, ax_cut, ax_lk, ax_st1, ax_st2, ax_ins0, ax_tg, ax_go, ax_sw, ax_lsw, ax_kc_s, ax_kc_n, ax_rf_rf, ax_isR_rf, ct_int, ct_long, ct_ref, ct_null, ct_rf, rf_ref, rf_null, isR_ref, isR_null, va_rf_s, va_rf_n, gv_0, gv_1, gv_2, pv_i, pv_r, pv_n, pv_q, pk_0, pk_2, pk_2n, pk_2q, pk_10, pk_11, rok_i, rok_z0, rok_z1, ex_eq, ex_z, ex_z2, ex_cz, List.filter_cons, List.filter_nil, List.take_succ_cons, List.take_zero, List.drop_succ_cons, List.drop_zero, List.reverse_cons, List.reverse_nil, List.nil_append, List.cons_append, List.append_nil, List.length_cons, List.length_nil, List.map_cons, List.map_nil, List.sum_cons, List.sum_nil, Bool.not_true, Bool.not_false, Bool.and_true, Bool.true_and, Bool.and_false, Bool.false_and, Bool.or_false, Bool.false_or, Bool.true_or, Bool.or_true, beq_self_eq_true, Nat.reduceBEq, Nat.reduceAdd, Nat.reduceSub, Nat.reduceLT, Nat.reduceLeDiff, Nat.reduceEqDiff, Int.reduceAdd, Int.reduceNeg, Int.reduceToNat, Int.reduceLE, Int.reduceNatCast, Int.reduceNatCast', ite_true, ite_false, if_true, if_false, reduceIte, true_and, and_true, false_and, and_false, true_or, or_true, false_or, or_false, Nat.sub_zero, Nat.le_refl, Bool.false_eq_true, Bool.true_eq_false, false_implies, true_implies, implies_true, not_true_eq_false, not_false_eq_true, eq_self, Fin.isValue, Nat.zero_add, Nat.add_zero, and_self, ne_eq, b01, Int32.reduceLT, Int32.reduceLE, z32, z64, m_X7_reached, dX7_reached_0, dX7_reached_1, dX7_reached_2, dX7_reached_3, dX7_reached_5, dX7_reached_7, ki_m1, dX7_reached_8, dX7_reached_11, dX7_reached_12, dX7_reached_13, fl_6_16, dX7_reached_16, dX7_reached_18, dX7_reached_19, dX7_reached_22, dX7_reached_23, dX7_reached_24, dX7_reached_27, dX7_reached_29, dX7_reached_30, dX7_reached_31, dX7_reached_32, dX7_reached_33, fl_6_7, dX7_reached_36, dX7_reached_38, dX7_reached_39, dX7_reached_41, dX7_reached_44, dX7_reached_46, T, Pu, i_m1m]
        rw [← ha]
        rfl
      | succ v =>
        have hV : v < n := by omega
        have hv31 : v < 2 ^ 31 := by have := W.1; omega
        have hc : (nI v).toNatClampNeg = v := nI_clamp hv31
        have hin : vp_in (nI v) 10 := vp_in_nI (by have := W.1; omega) (by decide)
        have hm1 : ¬ nI v = -1 := i_nm1 hv31
        obtain ⟨r0, r1, r2, r3, r4, r5, r6⟩ := R.2 v hV
        obtain ⟨w0, w1, w2, w2b, w3, w4, w5, w6⟩ := W.2 v hV
        rw [i_m1]
        refine ax_wp_ok (cuts := [ 5]) 40 ?_
        simp only [lv_args, fn0, fn1, fn2, fn3, ax_wp_s, ax_step, ax_ins, ax_nx, ax_cut, ax_lk, ax_st1, ax_st2, ax_ins0, ax_tg, ax_go, ax_sw, ax_lsw, ax_kc_s, ax_kc_n, ax_rf_rf, ax_isR_rf, ct_int, ct_long, ct_ref, ct_null, ct_rf, rf_ref, rf_null, isR_ref, isR_null, va_rf_s, va_rf_n, gv_0, gv_1, gv_2, pv_i, pv_r, pv_n, pv_q, pk_0, pk_2, pk_2n, pk_2q, pk_10, pk_11, rok_i, rok_z0, rok_z1, ex_eq, ex_z, ex_z2, ex_cz, List.filter_cons, List.filter_nil, List.take_succ_cons, List.take_zero, List.drop_succ_cons, List.drop_zero, List.reverse_cons, List.reverse_nil, List.nil_append, List.cons_append, List.append_nil, List.length_cons, List.length_nil, List.map_cons, List.map_nil, List.sum_cons, List.sum_nil, Bool.not_true, Bool.not_false, Bool.and_true, Bool.true_and, Bool.and_false, Bool.false_and, Bool.or_false, Bool.false_or, Bool.true_or, Bool.or_true, beq_self_eq_true, Nat.reduceBEq, Nat.reduceAdd, Nat.reduceSub, Nat.reduceLT, Nat.reduceLeDiff, Nat.reduceEqDiff, Int.reduceAdd, Int.reduceNeg, Int.reduceToNat, Int.reduceLE, Int.reduceNatCast, Int.reduceNatCast', ite_true, ite_false, if_true, if_false, reduceIte, true_and, and_true, false_and, and_false, true_or, or_true, false_or, or_false, Nat.sub_zero, Nat.le_refl, Bool.false_eq_true, Bool.true_eq_false, false_implies, true_implies, implies_true, not_true_eq_false, not_false_eq_true, eq_self, Fin.isValue, Nat.zero_add, Nat.add_zero, and_self, ne_eq, b01, Int32.reduceLT, Int32.reduceLE, z32, z64, m_X7_reached, dX7_reached_0, dX7_reached_1, dX7_reached_2, dX7_reached_3, dX7_reached_5, dX7_reached_7, ki_m1, dX7_reached_8, dX7_reached_11, dX7_reached_12, dX7_reached_13, fl_6_16, dX7_reached_16, dX7_reached_18, dX7_reached_19, dX7_reached_22, dX7_reached_23, dX7_reached_24, dX7_reached_27, dX7_reached_29, dX7_reached_30, dX7_reached_31, dX7_reached_32, dX7_reached_33, fl_6_7, dX7_reached_36, dX7_reached_38, dX7_reached_39, dX7_reached_41, dX7_reached_44, dX7_reached_46, T, Pu, hc, hin, hm1, r0, r2]
        rw [nI_leI (by omega) (by omega)]
        rw [s_fl_s W hV, show s_rch B (v :: s_fl B (B v 0)) l = if B v 2 < l then s_rch B (s_fl B (B v 0)) (l - B v 2) else v + 1 from rfl] at ha
        refine ⟨fun z => ?_, fun z => ?_⟩
        · rw [if_neg (by omega)] at ha
          rw [← ha, i_m1]
        · rw [if_pos (by omega)] at ha
          rw [pk_sub (by omega)]
          exact ih (B v 0) (by omega) _ (by omega) (by omega) ha
  refine ax_intro 6 false cdX7_reached (by decide +kernel) (by decide +kernel) (by decide +kernel) (Nat.le_of_ble_eq_true rfl) ?_
  refine ax_wp_ok (cuts := [ 5]) 30 ?_
  simp only [lv_args, fn0, fn1, fn2, fn3, ax_wp_s, ax_step, ax_ins, ax_nx, ax_cut, ax_lk, ax_st1, ax_st2, ax_ins0, ax_tg, ax_go, ax_sw, ax_lsw, ax_kc_s, ax_kc_n, ax_rf_rf, ax_isR_rf, ct_int, ct_long, ct_ref, ct_null, ct_rf, rf_ref, rf_null, isR_ref, isR_null, va_rf_s, va_rf_n, gv_0, gv_1, gv_2, pv_i, pv_r, pv_n, pv_q, pk_0, pk_2, pk_2n, pk_2q, pk_10, pk_11, rok_i, rok_z0, rok_z1, ex_eq, ex_z, ex_z2, ex_cz, List.filter_cons, List.filter_nil, List.take_succ_cons, List.take_zero, List.drop_succ_cons, List.drop_zero, List.reverse_cons, List.reverse_nil, List.nil_append, List.cons_append, List.append_nil, List.length_cons, List.length_nil, List.map_cons, List.map_nil, List.sum_cons, List.sum_nil, Bool.not_true, Bool.not_false, Bool.and_true, Bool.true_and, Bool.and_false, Bool.false_and, Bool.or_false, Bool.false_or, Bool.true_or, Bool.or_true, beq_self_eq_true, Nat.reduceBEq, Nat.reduceAdd, Nat.reduceSub, Nat.reduceLT, Nat.reduceLeDiff, Nat.reduceEqDiff, Int.reduceAdd, Int.reduceNeg, Int.reduceToNat, Int.reduceLE, Int.reduceNatCast, Int.reduceNatCast', ite_true, ite_false, if_true, if_false, reduceIte, true_and, and_true, false_and, and_false, true_or, or_true, false_or, or_false, Nat.sub_zero, Nat.le_refl, Bool.false_eq_true, Bool.true_eq_false, false_implies, true_implies, implies_true, not_true_eq_false, not_false_eq_true, eq_self, Fin.isValue, Nat.zero_add, Nat.add_zero, and_self, ne_eq, b01, Int32.reduceLT, Int32.reduceLE, z32, z64, m_X7_reached, dX7_reached_0, dX7_reached_1, dX7_reached_2, dX7_reached_3, dX7_reached_5, dX7_reached_7, ki_m1, dX7_reached_8, dX7_reached_11, dX7_reached_12, dX7_reached_13, fl_6_16, dX7_reached_16, dX7_reached_18, dX7_reached_19, dX7_reached_22, dX7_reached_23, dX7_reached_24, dX7_reached_27, dX7_reached_29, dX7_reached_30, dX7_reached_31, dX7_reached_32, dX7_reached_33, fl_6_7, dX7_reached_36, dX7_reached_38, dX7_reached_39, dX7_reached_41, dX7_reached_44, dX7_reached_46, T]
  have := lp (k + 1) left (by omega) hl rfl
  rw [i_m1] at this
  exact this
theorem within_a : ∀ a, a < 10 → ∀ b, b < 10 → s_within (nI a - nI b) 0 9 = nI (a - b) := by decide +kernel
theorem within_b : ∀ a, a < 10 → ∀ b, b < 10 → s_within (nI a - nI b) 0 9 = nI (a - b) := by decide +kernel
set_option maxRecDepth 100000 in
set_option maxHeartbeats 400000 in
theorem c_X7_is (T : TopM h) (W : WFB n B) (R : RMB n B h) {k : Nat} (hV : k < n) : AC G jX7_is 2 0 0 [.ref 100, .int (nI k)] h (Pu (.int (nI (s_iw B k))) h) := by
  unfold TopM at T
  have hv31 : k < 2 ^ 31 := by have := W.1; omega
  have hc : (nI k).toNatClampNeg = k := nI_clamp hv31
  have hin : vp_in (nI k) 10 := vp_in_nI (by have := W.1; omega) (by decide)
  have hm1 : ¬ nI k = -1 := i_nm1 hv31
  obtain ⟨r0, r1, r2, r3, r4, r5, r6⟩ := R.2 k hV
  obtain ⟨w0, w1, w2, w2b, w3, w4, w5, w6⟩ := W.2 k hV
  have e2 := i_eqL (a := B k 1) (n := 2) (by omega) (by decide)
  have e4 := i_eqL (a := B k 1) (n := 4) (by omega) (by decide)
  have ed : nI (B k 6) / 10 = nI (B k 6 / 10) := pk_div (a := B k 6) (d := 10) (by omega) (by decide) (by decide)
  have ew := within_a (B k 3) (by omega) (B k 5) (by omega)
  have ew2 := within_a (B k 3 - B k 5) (by omega) (B k 6 / 10) (by omega)
  refine ax_intro 6 false cdX7_is (by decide +kernel) (by decide +kernel) (by decide +kernel) (Nat.le_of_ble_eq_true rfl) ?_
  refine ax_wp_ok (cuts := []) 60 ?_
  simp only [lv_args, fn0, fn1, fn2, fn3, ax_wp_s, ax_step, ax_ins, ax_nx, ax_cut, ax_lk, ax_st1, ax_st2, ax_ins0, ax_tg, ax_go, ax_sw, ax_lsw, ax_kc_s, ax_kc_n, ax_rf_rf, ax_isR_rf, ct_int, ct_long, ct_ref, ct_null, ct_rf, rf_ref, rf_null, isR_ref, isR_null, va_rf_s, va_rf_n, gv_0, gv_1, gv_2, pv_i, pv_r, pv_n, pv_q, pk_0, pk_2, pk_2n, pk_2q, pk_10, pk_11, rok_i, rok_z0, rok_z1, ex_eq, ex_z, ex_z2, ex_cz, List.filter_cons, List.filter_nil, List.take_succ_cons, List.take_zero, List.drop_succ_cons, List.drop_zero, List.reverse_cons, List.reverse_nil, List.nil_append, List.cons_append, List.append_nil, List.length_cons, List.length_nil, List.map_cons, List.map_nil, List.sum_cons, List.sum_nil, Bool.not_true, Bool.not_false, Bool.and_true, Bool.true_and, Bool.and_false, Bool.false_and, Bool.or_false, Bool.false_or, Bool.true_or, Bool.or_true, beq_self_eq_true, Nat.reduceBEq, Nat.reduceAdd, Nat.reduceSub, Nat.reduceLT, Nat.reduceLeDiff, Nat.reduceEqDiff, Int.reduceAdd, Int.reduceNeg, Int.reduceToNat, Int.reduceLE, Int.reduceNatCast, Int.reduceNatCast', ite_true, ite_false, if_true, if_false, reduceIte, true_and, and_true, false_and, and_false, true_or, or_true, false_or, or_false, Nat.sub_zero, Nat.le_refl, Bool.false_eq_true, Bool.true_eq_false, false_implies, true_implies, implies_true, not_true_eq_false, not_false_eq_true, eq_self, Fin.isValue, Nat.zero_add, Nat.add_zero, and_self, ne_eq, b01, Int32.reduceLT, Int32.reduceLE, z32, z64, m_X7_is, dX7_is_0, dX7_is_1, fl_6_13, dX7_is_4, dX7_is_5, dX7_is_6, dX7_is_7, dX7_is_8, fl_6_19, dX7_is_11, dX7_is_12, dX7_is_13, dX7_is_14, fl_6_25, dX7_is_17, dX7_is_18, dX7_is_19, dX7_is_20, ki_0, dX7_is_21, kb_9, dX7_is_23, cl_6_176, dX7_is_26, dX7_is_27, dX7_is_28, ki_2, dX7_is_29, dX7_is_32, dX7_is_33, dX7_is_36, dX7_is_37, ki_4, dX7_is_38, dX7_is_41, dX7_is_42, dX7_is_43, fl_6_28, dX7_is_46, dX7_is_47, dX7_is_48, kb_10, dX7_is_50, dX7_is_51, dX7_is_52, dX7_is_53, dX7_is_55, dX7_is_58, dX7_is_61, dX7_is_62, dX7_is_65, dX7_is_66, dX7_is_67, T, hc, hin, r1, r3, r5, r6]
  refine ax_pu (c_X7_within _ _ _ _ _) (by decide) ?_
  simp only [lv_args, fn0, fn1, fn2, fn3, ax_wp_s, ax_step, ax_ins, ax_nx, ax_cut, ax_lk, ax_st1, ax_st2, ax_ins0, ax_tg, ax_go, ax_sw, ax_lsw, ax_kc_s, ax_kc_n, ax_rf_rf, ax_isR_rf, ct_int, ct_long, ct_ref, ct_null, ct_rf, rf_ref, rf_null, isR_ref, isR_null, va_rf_s, va_rf_n, gv_0, gv_1, gv_2, pv_i, pv_r, pv_n, pv_q, pk_0, pk_2, pk_2n, pk_2q, pk_10, pk_11, rok_i, rok_z0, rok_z1, ex_eq, ex_z, ex_z2, ex_cz, List.filter_cons, List.filter_nil, List.take_succ_cons, List.take_zero, List.drop_succ_cons, List.drop_zero, List.reverse_cons, List.reverse_nil, List.nil_append, List.cons_append, List.append_nil, List.length_cons, List.length_nil, List.map_cons, List.map_nil, List.sum_cons, List.sum_nil, Bool.not_true, Bool.not_false, Bool.and_true, Bool.true_and, Bool.and_false, Bool.false_and, Bool.or_false, Bool.false_or, Bool.true_or, Bool.or_true, beq_self_eq_true, Nat.reduceBEq, Nat.reduceAdd, Nat.reduceSub, Nat.reduceLT, Nat.reduceLeDiff, Nat.reduceEqDiff, Int.reduceAdd, Int.reduceNeg, Int.reduceToNat, Int.reduceLE, Int.reduceNatCast, Int.reduceNatCast', ite_true, ite_false, if_true, if_false, reduceIte, true_and, and_true, false_and, and_false, true_or, or_true, false_or, or_false, Nat.sub_zero, Nat.le_refl, Bool.false_eq_true, Bool.true_eq_false, false_implies, true_implies, implies_true, not_true_eq_false, not_false_eq_true, eq_self, Fin.isValue, Nat.zero_add, Nat.add_zero, and_self, ne_eq, b01, Int32.reduceLT, Int32.reduceLE, z32, z64, m_X7_is, dX7_is_0, dX7_is_1, fl_6_13, dX7_is_4, dX7_is_5, dX7_is_6, dX7_is_7, dX7_is_8, fl_6_19, dX7_is_11, dX7_is_12, dX7_is_13, dX7_is_14, fl_6_25, dX7_is_17, dX7_is_18, dX7_is_19, dX7_is_20, ki_0, dX7_is_21, kb_9, dX7_is_23, cl_6_176, dX7_is_26, dX7_is_27, dX7_is_28, ki_2, dX7_is_29, dX7_is_32, dX7_is_33, dX7_is_36, dX7_is_37, ki_4, dX7_is_38, dX7_is_41, dX7_is_42, dX7_is_43, fl_6_28, dX7_is_46, dX7_is_47, dX7_is_48, kb_10, dX7_is_50, dX7_is_51, dX7_is_52, dX7_is_53, dX7_is_55, dX7_is_58, dX7_is_61, dX7_is_62, dX7_is_65, dX7_is_66, dX7_is_67, T, hc, hin, r1, r3, r5, r6, Pu, ew, e2, e4]
  unfold s_iw
  refine ⟨fun q => ⟨fun z => ?_, fun z => ?_⟩, fun q => ?_⟩
  · rw [if_neg q, if_neg z]
  · refine ax_pu (c_X7_within _ _ _ _ _) (by decide) ?_
    simp only [lv_args, fn0, fn1, fn2, fn3, ax_wp_s, ax_step, ax_ins, ax_nx, ax_cut, ax_lk, ax_st1, ax_st2, ax_ins0, ax_tg, ax_go, ax_sw, ax_lsw, ax_kc_s, ax_kc_n, ax_rf_rf, ax_isR_rf, ct_int, ct_long, ct_ref, ct_null, ct_rf, rf_ref, rf_null, isR_ref, isR_null, va_rf_s, va_rf_n, gv_0, gv_1, gv_2, pv_i, pv_r, pv_n, pv_q, pk_0, pk_2, pk_2n, pk_2q, pk_10, pk_11, rok_i, rok_z0, rok_z1, ex_eq, ex_z, ex_z2, ex_cz, List.filter_cons, List.filter_nil, List.take_succ_cons, List.take_zero, List.drop_succ_cons, List.drop_zero, List.reverse_cons, List.reverse_nil, List.nil_append, List.cons_append, List.append_nil, List.length_cons, List.length_nil, List.map_cons, List.map_nil, List.sum_cons, List.sum_nil, Bool.not_true, Bool.not_false, Bool.and_true, Bool.true_and, Bool.and_false, Bool.false_and, Bool.or_false, Bool.false_or, Bool.true_or, Bool.or_true, beq_self_eq_true, Nat.reduceBEq, Nat.reduceAdd, Nat.reduceSub, Nat.reduceLT, Nat.reduceLeDiff, Nat.reduceEqDiff, Int.reduceAdd, Int.reduceNeg, Int.reduceToNat, Int.reduceLE, Int.reduceNatCast, Int.reduceNatCast', ite_true, ite_false, if_true, if_false, reduceIte, true_and, and_true, false_and, and_false, true_or, or_true, false_or, or_false, Nat.sub_zero, Nat.le_refl, Bool.false_eq_true, Bool.true_eq_false, false_implies, true_implies, implies_true, not_true_eq_false, not_false_eq_true, eq_self, Fin.isValue, Nat.zero_add, Nat.add_zero, and_self, ne_eq, b01, Int32.reduceLT, Int32.reduceLE, z32, z64, m_X7_is, dX7_is_0, dX7_is_1, fl_6_13, dX7_is_4, dX7_is_5, dX7_is_6, dX7_is_7, dX7_is_8, fl_6_19, dX7_is_11, dX7_is_12, dX7_is_13, dX7_is_14, fl_6_25, dX7_is_17, dX7_is_18, dX7_is_19, dX7_is_20, ki_0, dX7_is_21, kb_9, dX7_is_23, cl_6_176, dX7_is_26, dX7_is_27, dX7_is_28, ki_2, dX7_is_29, dX7_is_32, dX7_is_33, dX7_is_36, dX7_is_37, ki_4, dX7_is_38, dX7_is_41, dX7_is_42, dX7_is_43, fl_6_28, dX7_is_46, dX7_is_47, dX7_is_48, kb_10, dX7_is_50, dX7_is_51, dX7_is_52, dX7_is_53, dX7_is_55, dX7_is_58, dX7_is_61, dX7_is_62, dX7_is_65, dX7_is_66, dX7_is_67, Pu]
    rw [if_neg q, if_pos z, ed, ew2]
  · rw [if_pos q]
set_option maxRecDepth 100000 in
set_option maxHeartbeats 400000 in
theorem c_X7_leaks (T : TopM h) (W : WFB n B) (R : RMB n B h) {k : Nat} (hV : k < n) : AC G jX7_leaks 1 0 0 [.ref 100, .int (nI k)] h (Pu (.int (nI (s_lks B k))) h) := by
  unfold TopM at T
  have hv31 : k < 2 ^ 31 := by have := W.1; omega
  have hc : (nI k).toNatClampNeg = k := nI_clamp hv31
  have hin : vp_in (nI k) 10 := vp_in_nI (by have := W.1; omega) (by decide)
  have hm1 : ¬ nI k = -1 := i_nm1 hv31
  obtain ⟨r0, r1, r2, r3, r4, r5, r6⟩ := R.2 k hV
  obtain ⟨w0, w1, w2, w2b, w3, w4, w5, w6⟩ := W.2 k hV
  have e5 := i_eqL (a := B k 1) (n := 5) (by omega) (by decide)
  have em : (10 : Int32) * nI (B k 5) = nI (10 * B k 5) := pk_mul 10 _
  refine ax_intro 6 false cdX7_leaks (by decide +kernel) (by decide +kernel) (by decide +kernel) (Nat.le_of_ble_eq_true rfl) ?_
  refine ax_wp_ok (cuts := []) 40 ?_
  simp only [lv_args, fn0, fn1, fn2, fn3, ax_wp_s, ax_step, ax_ins, ax_nx, ax_cut, ax_lk, ax_st1, ax_st2, ax_ins0, ax_tg, ax_go, ax_sw, ax_lsw, ax_kc_s, ax_kc_n, ax_rf_rf, ax_isR_rf, ct_int, ct_long, ct_ref, ct_null, ct_rf, rf_ref, rf_null, isR_ref, isR_null, va_rf_s, va_rf_n, gv_0, gv_1, gv_2, pv_i, pv_r, pv_n, pv_q, pk_0, pk_2, pk_2n, pk_2q, pk_10, pk_11, rok_i, rok_z0, rok_z1, ex_eq, ex_z, ex_z2, ex_cz, List.filter_cons, List.filter_nil, List.take_succ_cons, List.take_zero, List.drop_succ_cons, List.drop_zero, List.reverse_cons, List.reverse_nil, List.nil_append, List.cons_append, List.append_nil, List.length_cons, List.length_nil, List.map_cons, List.map_nil, List.sum_cons, List.sum_nil, Bool.not_true, Bool.not_false, Bool.and_true, Bool.true_and, Bool.and_false, Bool.false_and, Bool.or_false, Bool.false_or, Bool.true_or, Bool.or_true, beq_self_eq_true, Nat.reduceBEq, Nat.reduceAdd, Nat.reduceSub, Nat.reduceLT, Nat.reduceLeDiff, Nat.reduceEqDiff, Int.reduceAdd, Int.reduceNeg, Int.reduceToNat, Int.reduceLE, Int.reduceNatCast, Int.reduceNatCast', ite_true, ite_false, if_true, if_false, reduceIte, true_and, and_true, false_and, and_false, true_or, or_true, false_or, or_false, Nat.sub_zero, Nat.le_refl, Bool.false_eq_true, Bool.true_eq_false, false_implies, true_implies, implies_true, not_true_eq_false, not_false_eq_true, eq_self, Fin.isValue, Nat.zero_add, Nat.add_zero, and_self, ne_eq, b01, Int32.reduceLT, Int32.reduceLE, z32, z64, m_X7_leaks, dX7_leaks_0, dX7_leaks_1, fl_6_13, dX7_leaks_4, dX7_leaks_5, dX7_leaks_6, ki_5, dX7_leaks_7, dX7_leaks_10, kb_10, dX7_leaks_12, dX7_leaks_13, fl_6_25, dX7_leaks_16, dX7_leaks_17, dX7_leaks_18, dX7_leaks_19, dX7_leaks_22, ki_0, dX7_leaks_23, T, hc, hin, r1, r5, Pu, e5, em]
  unfold s_lks
  refine ⟨fun q => ?_, fun q => ?_⟩
  · rw [if_neg q]
    rfl
  · rw [if_pos q]
set_option maxRecDepth 100000 in
set_option maxHeartbeats 400000 in
theorem c_X7_remains (T : TopM h) (W : WFB n B) (R : RMB n B h) {k : Nat} (hV : k < n) : AC G jX7_remains 1 0 0 [.ref 100, .int (nI k)] h (Pu (.int (nI (s_rem B k))) h) := by
  unfold TopM at T
  have hv31 : k < 2 ^ 31 := by have := W.1; omega
  have hc : (nI k).toNatClampNeg = k := nI_clamp hv31
  have hin : vp_in (nI k) 10 := vp_in_nI (by have := W.1; omega) (by decide)
  have hm1 : ¬ nI k = -1 := i_nm1 hv31
  obtain ⟨r0, r1, r2, r3, r4, r5, r6⟩ := R.2 k hV
  obtain ⟨w0, w1, w2, w2b, w3, w4, w5, w6⟩ := W.2 k hV
  have e4 := i_eqL (a := B k 1) (n := 4) (by omega) (by decide)
  have e3 := i_eqL (a := B k 1) (n := 3) (by omega) (by decide)
  have ed : nI (B k 6) / 2 = nI (B k 6 / 2) := pk_div (a := B k 6) (d := 2) (by omega) (by decide) (by decide)
  refine ax_intro 6 false cdX7_remains (by decide +kernel) (by decide +kernel) (by decide +kernel) (Nat.le_of_ble_eq_true rfl) ?_
  refine ax_wp_ok (cuts := []) 40 ?_
  simp only [lv_args, fn0, fn1, fn2, fn3, ax_wp_s, ax_step, ax_ins, ax_nx, ax_cut, ax_lk, ax_st1, ax_st2, ax_ins0, ax_tg, ax_go, ax_sw, ax_lsw, ax_kc_s, ax_kc_n, ax_rf_rf, ax_isR_rf, ct_int, ct_long, ct_ref, ct_null, ct_rf, rf_ref, rf_null, isR_ref, isR_null, va_rf_s, va_rf_n, gv_0, gv_1, gv_2, pv_i, pv_r, pv_n, pv_q, pk_0, pk_2, pk_2n, pk_2q, pk_10, pk_11, rok_i, rok_z0, rok_z1, ex_eq, ex_z, ex_z2, ex_cz, List.filter_cons, List.filter_nil, List.take_succ_cons, List.take_zero, List.drop_succ_cons, List.drop_zero, List.reverse_cons, List.reverse_nil, List.nil_append, List.cons_append, List.append_nil, List.length_cons, List.length_nil, List.map_cons, List.map_nil, List.sum_cons, List.sum_nil, Bool.not_true, Bool.not_false, Bool.and_true, Bool.true_and, Bool.and_false, Bool.false_and, Bool.or_false, Bool.false_or, Bool.true_or, Bool.or_true, beq_self_eq_true, Nat.reduceBEq, Nat.reduceAdd, Nat.reduceSub, Nat.reduceLT, Nat.reduceLeDiff, Nat.reduceEqDiff, Int.reduceAdd, Int.reduceNeg, Int.reduceToNat, Int.reduceLE, Int.reduceNatCast, Int.reduceNatCast', ite_true, ite_false, if_true, if_false, reduceIte, true_and, and_true, false_and, and_false, true_or, or_true, false_or, or_false, Nat.sub_zero, Nat.le_refl, Bool.false_eq_true, Bool.true_eq_false, false_implies, true_implies, implies_true, not_true_eq_false, not_false_eq_true, eq_self, Fin.isValue, Nat.zero_add, Nat.add_zero, and_self, ne_eq, b01, Int32.reduceLT, Int32.reduceLE, z32, z64, m_X7_remains, dX7_remains_0, dX7_remains_1, fl_6_13, dX7_remains_4, dX7_remains_5, dX7_remains_6, ki_4, dX7_remains_7, dX7_remains_10, dX7_remains_11, fl_6_28, dX7_remains_14, dX7_remains_15, dX7_remains_16, dX7_remains_19, dX7_remains_20, dX7_remains_23, dX7_remains_24, dX7_remains_25, ki_3, dX7_remains_26, dX7_remains_29, dX7_remains_30, dX7_remains_33, dX7_remains_34, dX7_remains_35, ki_2, dX7_remains_36, dX7_remains_37, dX7_remains_40, ki_0, dX7_remains_41, T, hc, hin, r1, r6, Pu, e4, e3, ed]
  unfold s_rem
  refine ⟨fun q => ⟨fun z => ?_, fun z => ?_⟩, fun q => ?_⟩
  · rw [if_neg q, if_neg z]
    rfl
  · rw [if_neg q, if_pos z]
  · rw [if_pos q]
end MB
