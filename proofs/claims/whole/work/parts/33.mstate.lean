-- deps: 14 15 16 17 18 19 20 21 28 29 32
def s_fdA (a b c d e : Int32) (k : Nat) : Int32 := if k = 0 then a else if k = 1 then b else if k = 2 then c else if k = 3 then d else e
def s_fdR (tn : Nat) (m a b c d e : Int32) : Int32 := if s_r m 1 5 then (if s_r a 0 255 then (if s_r b 0 255 then (if s_r c 0 255 then (if s_r d 0 255 then (if s_r e 0 255 then (if tn + m.toInt.toNat ≤ 160 then nI (tn + m.toInt.toNat) else -4) else -2) else -2) else -2) else -2) else -2) else -2
def s_fdN (tn : Nat) (m a b c d e : Int32) : Nat := if s_r m 1 5 then (if s_r a 0 255 then (if s_r b 0 255 then (if s_r c 0 255 then (if s_r d 0 255 then (if s_r e 0 255 then (if tn + m.toInt.toNat ≤ 160 then (tn + m.toInt.toNat) else tn) else tn) else tn) else tn) else tn) else tn) else tn
def s_fdB (tn : Nat) (tb : Nat → Nat) (a b c d e : Int32) (i : Nat) : Nat := if i < tn then tb i else (s_fdA a b c d e (i - tn)).toInt.toNat
def s_bk (B IB : SB) : SB := fun i j => if j = 1 ∨ (j = 5 ∨ j = 6) then IB i j else B i j
def s_bckR (I : SI) : Int32 := if I.1 = true then nI I.2.1 else -3
def s_bckn (I : SI) (n : Nat) : Nat := if I.1 = true then I.2.1 else n
def s_bckr (I : SI) (r : Nat) : Nat := if I.1 = true then I.2.2.1 else r
def s_bckB (I : SI) (B : SB) : SB := if I.1 = true then s_bk B I.2.2.2 else B
theorem s_fdA_in {a b c d e : Int32} (ga : s_r a 0 255) (gb : s_r b 0 255) (gc : s_r c 0 255) (gd : s_r d 0 255) (ge : s_r e 0 255) (k : Nat) : ∃ x, x ≤ 255 ∧ s_fdA a b c d e k = nI x := by
  unfold s_fdA
  split
  · exact s_r_n (m := 255) (by decide) ga
  · split
    · exact s_r_n (m := 255) (by decide) gb
    · split
      · exact s_r_n (m := 255) (by decide) gc
      · split
        · exact s_r_n (m := 255) (by decide) gd
        · exact s_r_n (m := 255) (by decide) ge
section MS2
variable {G : AG} {h : AH} {n : Nat} {B : SB} {T r : Nat} {X E : Nat → Nat → Nat} {tn : Nat} {tb : Nat → Nat}
set_option maxRecDepth 100000 in
set_option maxHeartbeats 400000 in
theorem c_X7_image (W : WC n B T r X E) (R : RC n B T r X E h) : AC G jX7_image 1 0 0 [.ref 100] h (fun v h' => v = some (.int (nI n)) ∧ Sq [117] [14, 15, 16] h h' ∧ RMI (true, n, r, B) h') := by
  have M := R.1
  unfold TopM at M
  have h10 := W.1.1
  have r0 := R.2.1.1
  have r13 := R.2.2.2.1
  have lp : ∀ (j k : Nat) (h1 : AH), k + j = 10 → Sq [117] [14, 15, 16] h h1 → h1.2.1 100 14 = 1 → h1.2.1 100 15 = nI n → h1.2.1 100 16 = nI r → (∀ i, i < k → h1.2.1 117 i = h.2.1 107 i ∧ h1.2.1 117 (10 + i) = h.2.1 102 i ∧ h1.2.1 117 (20 + i) = h.2.1 106 i) → AW G 6 2 false cX7_image (Option.some FieldType.int) 1 (fun v h' => v = some (.int (nI n)) ∧ Sq [117] [14, 15, 16] h h' ∧ RMI (true, n, r, B) h') 0 0 23 [(0, .ref 100), (1, .int (nI k))] [] h1 := by
    intro j
    induction j with
    | zero =>
      intro k h1 hk S1 q4 q5 q6 q
      have M1 := TopM_Sq S1 R.1
      unfold TopM at M1
      have e : k = 10 := by omega
      subst e
      have ge : (10 : Int32) ≤ nI 10 := by decide
      have e0 : h1.2.1 100 0 = nI n := by rw [S1.2.2.2 0 (by decide)]; exact r0
      refine ax_wp_ok (cuts := [ 23]) 60 ?_
      simp only [lv_args, fn0, fn1, fn2, fn3, ax_wp_s, ax_step, ax_ins, ax_nx, ax_cut, ax_lk, ax_st1, ax_st2, ax_ins0, ax_tg, ax_go, ax_sw, ax_lsw, ax_kc_s, ax_kc_n, ax_rf_rf, ax_isR_rf, ct_int, ct_long, ct_ref, ct_null, ct_rf, rf_ref, rf_null, isR_ref, isR_null, va_rf_s, va_rf_n, gv_0, gv_1, gv_2, pv_i, pv_r, pv_n, pv_q, pk_0, pk_2, pk_2n, pk_2q, pk_10, pk_11, rok_i, rok_z0, rok_z1, ex_eq, ex_z, ex_z2, ex_cz, List.filter_cons, List.filter_nil, List.take_succ_cons, List.take_zero, List.drop_succ_cons, List.drop_zero, List.reverse_cons, List.reverse_nil, List.nil_append, List.cons_append, List.append_nil, List.length_cons, List.length_nil, List.map_cons, List.map_nil, List.sum_cons, List.sum_nil, Bool.not_true, Bool.not_false, Bool.and_true, Bool.true_and, Bool.and_false, Bool.false_and, Bool.or_false, Bool.false_or, Bool.true_or, Bool.or_true, beq_self_eq_true, Nat.reduceBEq, Nat.reduceAdd, Nat.reduceSub, Nat.reduceLT, Nat.reduceLeDiff, Nat.reduceEqDiff, Int.reduceAdd, Int.reduceNeg, Int.reduceToNat, Int.reduceLE, Int.reduceNatCast, Int.reduceNatCast', ite_true, ite_false, if_true, if_false, reduceIte, true_and, and_true, false_and, and_false, true_or, or_true, false_or, or_false, Nat.sub_zero, Nat.le_refl, Bool.false_eq_true, Bool.true_eq_false, false_implies, true_implies, implies_true, not_true_eq_false, not_false_eq_true, eq_self, Fin.isValue, Nat.zero_add, Nat.add_zero, and_self, ne_eq, b01, Int32.reduceLT, Int32.reduceLE, z32, z64, vl_0, tl_0, vl_1, tl_1, vl_2, tl_2, vl_3, tl_3, vl_4, tl_4, vl_5, tl_5, vl_6, tl_6, vl_7, tl_7, vl_8, tl_8, vl_9, tl_9, m_X7_image, dX7_image_0, dX7_image_1, ki_1, dX7_image_2, fl_6_318, dX7_image_5, dX7_image_6, dX7_image_7, fl_6_84, dX7_image_10, fl_6_322, dX7_image_13, dX7_image_14, dX7_image_15, fl_6_111, dX7_image_18, fl_6_325, dX7_image_21, ki_0, dX7_image_22, dX7_image_23, dX7_image_24, kb_10, dX7_image_26, dX7_image_29, dX7_image_30, fl_6_40, dX7_image_33, dX7_image_34, dX7_image_35, fl_6_28, dX7_image_38, dX7_image_39, dX7_image_40, dX7_image_41, dX7_image_42, dX7_image_45, dX7_image_47, dX7_image_48, dX7_image_49, dX7_image_50, fl_6_13, dX7_image_53, dX7_image_54, dX7_image_55, dX7_image_56, dX7_image_57, dX7_image_60, kb_20, dX7_image_62, dX7_image_63, dX7_image_64, dX7_image_65, fl_6_25, dX7_image_68, dX7_image_69, dX7_image_70, dX7_image_71, dX7_image_74, dX7_image_77, dX7_image_78, dX7_image_81, M1, ge, e0]
      refine ⟨S1, q4, fun _ => ⟨q5, q6, fun b hb => ?_⟩⟩
      obtain ⟨p0, p1, p2, p3, p4, p5, p6⟩ := R.2.1.2 b hb
      obtain ⟨y1, y2, y3⟩ := q b (Nat.lt_of_lt_of_le hb h10)
      exact ⟨y1.trans p6, y2.trans p1, y3.trans p5⟩
    | succ j ih =>
      intro k h1 hk S1 q4 q5 q6 q
      have M1 := TopM_Sq S1 R.1
      unfold TopM at M1
      have ge : ¬ (10 : Int32) ≤ nI k := fun z => by
        have := (i_Lle (n := 10) (by omega) (by decide)).mp z
        omega
      have c1 : (nI k).toNatClampNeg = k := nI_clamp (by omega)
      have i1 : vp_in (nI k) 10 := vp_in_nI (by omega) (by decide)
      have i1b : vp_in (nI k) 30 := vp_in_nI (by omega) (by decide)
      have s2 : (10 : Int32) + nI k = nI (10 + k) := nI_add 10 k
      have c2 : (nI (10 + k)).toNatClampNeg = 10 + k := nI_clamp (by omega)
      have i2 : vp_in (nI (10 + k)) 30 := vp_in_nI (by omega) (by decide)
      have s3 : (20 : Int32) + nI k = nI (20 + k) := nI_add 20 k
      have c3 : (nI (20 + k)).toNatClampNeg = 20 + k := nI_clamp (by omega)
      have i3 : vp_in (nI (20 + k)) 30 := vp_in_nI (by omega) (by decide)
      have e7 : h1.2.1 107 = h.2.1 107 := S1.2.2.1 107 (by decide) (by decide)
      have e2 : h1.2.1 102 = h.2.1 102 := S1.2.2.1 102 (by decide) (by decide)
      have e6 : h1.2.1 106 = h.2.1 106 := S1.2.2.1 106 (by decide) (by decide)
      refine ax_wp_ok (cuts := [ 23]) 90 ?_
      simp only [lv_args, fn0, fn1, fn2, fn3, ax_wp_s, ax_step, ax_ins, ax_nx, ax_cut, ax_lk, ax_st1, ax_st2, ax_ins0, ax_tg, ax_go, ax_sw, ax_lsw, ax_kc_s, ax_kc_n, ax_rf_rf, ax_isR_rf, ct_int, ct_long, ct_ref, ct_null, ct_rf, rf_ref, rf_null, isR_ref, isR_null, va_rf_s, va_rf_n, gv_0, gv_1, gv_2, pv_i, pv_r, pv_n, pv_q, pk_0, pk_2, pk_2n, pk_2q, pk_10, pk_11, rok_i, rok_z0, rok_z1, ex_eq, ex_z, ex_z2, ex_cz, List.filter_cons, List.filter_nil, List.take_succ_cons, List.take_zero, List.drop_succ_cons, List.drop_zero, List.reverse_cons, List.reverse_nil, List.nil_append, List.cons_append, List.append_nil, List.length_cons, List.length_nil, List.map_cons, List.map_nil, List.sum_cons, List.sum_nil, Bool.not_true, Bool.not_false, Bool.and_true, Bool.true_and, Bool.and_false, Bool.false_and, Bool.or_false, Bool.false_or, Bool.true_or, Bool.or_true, beq_self_eq_true, Nat.reduceBEq, Nat.reduceAdd, Nat.reduceSub, Nat.reduceLT, Nat.reduceLeDiff, Nat.reduceEqDiff, Int.reduceAdd, Int.reduceNeg, Int.reduceToNat, Int.reduceLE, Int.reduceNatCast, Int.reduceNatCast', ite_true, ite_false, if_true, if_false, reduceIte, true_and, and_true, false_and, and_false, true_or, or_true, false_or, or_false, Nat.sub_zero, Nat.le_refl, Bool.false_eq_true, Bool.true_eq_false, false_implies, true_implies, implies_true, not_true_eq_false, not_false_eq_true, eq_self, Fin.isValue, Nat.zero_add, Nat.add_zero, and_self, ne_eq, b01, Int32.reduceLT, Int32.reduceLE, z32, z64, vl_0, tl_0, vl_1, tl_1, vl_2, tl_2, vl_3, tl_3, vl_4, tl_4, vl_5, tl_5, vl_6, tl_6, vl_7, tl_7, vl_8, tl_8, vl_9, tl_9, m_X7_image, dX7_image_0, dX7_image_1, ki_1, dX7_image_2, fl_6_318, dX7_image_5, dX7_image_6, dX7_image_7, fl_6_84, dX7_image_10, fl_6_322, dX7_image_13, dX7_image_14, dX7_image_15, fl_6_111, dX7_image_18, fl_6_325, dX7_image_21, ki_0, dX7_image_22, dX7_image_23, dX7_image_24, kb_10, dX7_image_26, dX7_image_29, dX7_image_30, fl_6_40, dX7_image_33, dX7_image_34, dX7_image_35, fl_6_28, dX7_image_38, dX7_image_39, dX7_image_40, dX7_image_41, dX7_image_42, dX7_image_45, dX7_image_47, dX7_image_48, dX7_image_49, dX7_image_50, fl_6_13, dX7_image_53, dX7_image_54, dX7_image_55, dX7_image_56, dX7_image_57, dX7_image_60, kb_20, dX7_image_62, dX7_image_63, dX7_image_64, dX7_image_65, fl_6_25, dX7_image_68, dX7_image_69, dX7_image_70, dX7_image_71, dX7_image_74, dX7_image_77, dX7_image_78, dX7_image_81, M1, ge, c1, c2, c3, i1, i1b, i2, i3, s2, s3, setI_at, setI_1, setI_22, nI_1]
      refine ih (k + 1) _ (by omega) (Sq_st (Sq_st (Sq_st S1 (.head _) (by decide)) (.head _) (by decide)) (.head _) (by decide)) ?_ ?_ ?_ (fun i hi => ?_)
      · simp only [setI_at]
        exact q4
      · simp only [setI_at]
        exact q5
      · simp only [setI_at]
        exact q6
      · simp only [setI_at, e7, e2, e6]
        by_cases e : i = k
        · subst e
          refine ⟨?_, ?_, ?_⟩
          · rw [if_neg (by omega), if_neg (by omega), if_pos (by simp)]
          · rw [if_neg (by omega), if_pos (by simp)]
          · rw [if_pos (by simp)]
        · obtain ⟨y1, y2, y3⟩ := q i (by omega)
          refine ⟨?_, ?_, ?_⟩
          · rw [if_neg (by omega), if_neg (by omega), if_neg (by omega)]
            exact y1
          · rw [if_neg (by omega), if_neg (by omega), if_neg (by omega)]
            exact y2
          · rw [if_neg (by omega), if_neg (by omega), if_neg (by omega)]
            exact y3
  refine ax_intro 6 false cdX7_image (by decide +kernel) (by decide +kernel) (by decide +kernel) (Nat.le_of_ble_eq_true rfl) ?_
  refine ax_wp_ok (cuts := [ 23]) 60 ?_
  simp only [lv_args, fn0, fn1, fn2, fn3, ax_wp_s, ax_step, ax_ins, ax_nx, ax_cut, ax_lk, ax_st1, ax_st2, ax_ins0, ax_tg, ax_go, ax_sw, ax_lsw, ax_kc_s, ax_kc_n, ax_rf_rf, ax_isR_rf, ct_int, ct_long, ct_ref, ct_null, ct_rf, rf_ref, rf_null, isR_ref, isR_null, va_rf_s, va_rf_n, gv_0, gv_1, gv_2, pv_i, pv_r, pv_n, pv_q, pk_0, pk_2, pk_2n, pk_2q, pk_10, pk_11, rok_i, rok_z0, rok_z1, ex_eq, ex_z, ex_z2, ex_cz, List.filter_cons, List.filter_nil, List.take_succ_cons, List.take_zero, List.drop_succ_cons, List.drop_zero, List.reverse_cons, List.reverse_nil, List.nil_append, List.cons_append, List.append_nil, List.length_cons, List.length_nil, List.map_cons, List.map_nil, List.sum_cons, List.sum_nil, Bool.not_true, Bool.not_false, Bool.and_true, Bool.true_and, Bool.and_false, Bool.false_and, Bool.or_false, Bool.false_or, Bool.true_or, Bool.or_true, beq_self_eq_true, Nat.reduceBEq, Nat.reduceAdd, Nat.reduceSub, Nat.reduceLT, Nat.reduceLeDiff, Nat.reduceEqDiff, Int.reduceAdd, Int.reduceNeg, Int.reduceToNat, Int.reduceLE, Int.reduceNatCast, Int.reduceNatCast', ite_true, ite_false, if_true, if_false, reduceIte, true_and, and_true, false_and, and_false, true_or, or_true, false_or, or_false, Nat.sub_zero, Nat.le_refl, Bool.false_eq_true, Bool.true_eq_false, false_implies, true_implies, implies_true, not_true_eq_false, not_false_eq_true, eq_self, Fin.isValue, Nat.zero_add, Nat.add_zero, and_self, ne_eq, b01, Int32.reduceLT, Int32.reduceLE, z32, z64, vl_0, tl_0, vl_1, tl_1, vl_2, tl_2, vl_3, tl_3, vl_4, tl_4, vl_5, tl_5, vl_6, tl_6, vl_7, tl_7, vl_8, tl_8, vl_9, tl_9, m_X7_image, dX7_image_0, dX7_image_1, ki_1, dX7_image_2, fl_6_318, dX7_image_5, dX7_image_6, dX7_image_7, fl_6_84, dX7_image_10, fl_6_322, dX7_image_13, dX7_image_14, dX7_image_15, fl_6_111, dX7_image_18, fl_6_325, dX7_image_21, ki_0, dX7_image_22, dX7_image_23, dX7_image_24, kb_10, dX7_image_26, dX7_image_29, dX7_image_30, fl_6_40, dX7_image_33, dX7_image_34, dX7_image_35, fl_6_28, dX7_image_38, dX7_image_39, dX7_image_40, dX7_image_41, dX7_image_42, dX7_image_45, dX7_image_47, dX7_image_48, dX7_image_49, dX7_image_50, fl_6_13, dX7_image_53, dX7_image_54, dX7_image_55, dX7_image_56, dX7_image_57, dX7_image_60, kb_20, dX7_image_62, dX7_image_63, dX7_image_64, dX7_image_65, fl_6_25, dX7_image_68, dX7_image_69, dX7_image_70, dX7_image_71, dX7_image_74, dX7_image_77, dX7_image_78, dX7_image_81, M, r0, r13, setI_at, setI_1, setI_22]
  refine lp 10 0 _ rfl (Sq_f (Sq_f (Sq_f (Sq_rf _ _ _) (by decide)) (by decide)) (by decide)) ?_ ?_ ?_ (fun i hi => by omega)
  · simp only [setI_at]
    rfl
  · simp only [setI_at]
    rfl
  · simp only [setI_at]
    rfl
set_option maxRecDepth 100000 in
set_option maxHeartbeats 400000 in
theorem c_X7_back {I : SI} (W : WC n B T r X E) (R : RC n B T r X E h) (WI : WSI I n T) (RI : RMI I h) : AC G jX7_back 1 0 0 [.ref 100] h (fun v h' => v = some (.int (s_bckR I)) ∧ Sq [102, 106, 107] [0, 13] h h' ∧ RC (s_bckn I n) (s_bckB I B) T (s_bckr I r) X E h') := by
  have M := R.1
  unfold TopM at M
  have h10 := W.1.1
  unfold s_bckR s_bckn s_bckB s_bckr
  by_cases hI : I.1 = true
  · simp only [if_pos hI]
    obtain ⟨q14, qq⟩ := RI
    obtain ⟨q15, q16, q17⟩ := qq hI
    obtain ⟨v1, v2, v3⟩ := WI hI
    rw [if_pos hI] at q14
    have one : ¬ (1 : Int32) = 0 := by decide
    have lp : ∀ (j k : Nat) (h1 : AH), k + j = 10 → Sq [102, 106, 107] [0, 13] h h1 → h1.2.1 100 0 = nI I.2.1 → h1.2.1 100 13 = nI I.2.2.1 → (∀ i, i < k → h1.2.1 107 i = h.2.1 117 i ∧ h1.2.1 102 i = h.2.1 117 (10 + i) ∧ h1.2.1 106 i = h.2.1 117 (20 + i)) → AW G 6 2 false cX7_back (Option.some FieldType.int) 1 (fun v h' => v = some (.int (nI I.2.1)) ∧ Sq [102, 106, 107] [0, 13] h h' ∧ RC I.2.1 (s_bk B I.2.2.2) T I.2.2.1 X E h') 0 0 28 [(0, .ref 100), (1, .int (nI k))] [] h1 := by
      intro j
      induction j with
      | zero =>
        intro k h1 hk S1 q0 q13 q
        have M1 := TopM_Sq S1 R.1
        have M2 := M1
        unfold TopM at M1
        have e : k = 10 := by omega
        subst e
        have ge : (10 : Int32) ≤ nI 10 := by decide
        refine ax_wp_ok (cuts := [ 28]) 60 ?_
        simp only [lv_args, fn0, fn1, fn2, fn3, ax_wp_s, ax_step, ax_ins, ax_nx, ax_cut, ax_lk, ax_st1, ax_st2, ax_ins0, ax_tg, ax_go, ax_sw, ax_lsw, ax_kc_s, ax_kc_n, ax_rf_rf, ax_isR_rf, ct_int, ct_long, ct_ref, ct_null, ct_rf, rf_ref, rf_null, isR_ref, isR_null, va_rf_s, va_rf_n, gv_0, gv_1, gv_2, pv_i, pv_r, pv_n, pv_q, pk_0, pk_2, pk_2n, pk_2q, pk_10, pk_11, rok_i, rok_z0, rok_z1, ex_eq, ex_z, ex_z2, ex_cz, List.filter_cons, List.filter_nil, List.take_succ_cons, List.take_zero, List.drop_succ_cons, List.drop_zero, List.reverse_cons, List.reverse_nil, List.nil_append, List.cons_append, List.append_nil, List.length_cons, List.length_nil, List.map_cons, List.map_nil, List.sum_cons, List.sum_nil, Bool.not_true, Bool.not_false, Bool.and_true, Bool.true_and, Bool.and_false, Bool.false_and, Bool.or_false, Bool.false_or, Bool.true_or, Bool.or_true, beq_self_eq_true, Nat.reduceBEq, Nat.reduceAdd, Nat.reduceSub, Nat.reduceLT, Nat.reduceLeDiff, Nat.reduceEqDiff, Int.reduceAdd, Int.reduceNeg, Int.reduceToNat, Int.reduceLE, Int.reduceNatCast, Int.reduceNatCast', ite_true, ite_false, if_true, if_false, reduceIte, true_and, and_true, false_and, and_false, true_or, or_true, false_or, or_false, Nat.sub_zero, Nat.le_refl, Bool.false_eq_true, Bool.true_eq_false, false_implies, true_implies, implies_true, not_true_eq_false, not_false_eq_true, eq_self, Fin.isValue, Nat.zero_add, Nat.add_zero, and_self, ne_eq, b01, Int32.reduceLT, Int32.reduceLE, z32, z64, vl_0, tl_0, vl_1, tl_1, vl_2, tl_2, vl_3, tl_3, vl_4, tl_4, vl_5, tl_5, vl_6, tl_6, vl_7, tl_7, vl_8, tl_8, vl_9, tl_9, m_X7_back, dX7_back_0, dX7_back_1, fl_6_318, dX7_back_4, dX7_back_7, kb_m3, dX7_back_9, dX7_back_10, dX7_back_11, dX7_back_12, fl_6_322, dX7_back_15, fl_6_84, dX7_back_18, dX7_back_19, dX7_back_20, fl_6_325, dX7_back_23, fl_6_111, dX7_back_26, ki_0, dX7_back_27, dX7_back_28, dX7_back_29, kb_10, dX7_back_31, dX7_back_34, dX7_back_35, fl_6_28, dX7_back_38, dX7_back_39, dX7_back_40, fl_6_40, dX7_back_43, dX7_back_44, dX7_back_45, dX7_back_46, dX7_back_47, fl_6_13, dX7_back_50, dX7_back_51, dX7_back_52, dX7_back_55, dX7_back_57, dX7_back_58, dX7_back_59, dX7_back_60, dX7_back_61, dX7_back_62, fl_6_25, dX7_back_65, dX7_back_66, dX7_back_67, dX7_back_70, kb_20, dX7_back_72, dX7_back_73, dX7_back_74, dX7_back_75, dX7_back_76, ki_1, dX7_back_79, dX7_back_82, dX7_back_83, dX7_back_86, M1, ge, q0]
        obtain ⟨p12, p13, pX, pE⟩ := R.2.2
        refine ⟨S1, M2, ⟨q0, fun b hb => ?_⟩, ?_, q13, ?_, ?_⟩
        · obtain ⟨p0, p1, p2, p3, p4, p5, p6⟩ := R.2.1.2 b (by omega)
          obtain ⟨y1, y2, y3⟩ := q b (by omega)
          obtain ⟨x6, x1, x5⟩ := q17 b hb
          rw [S1.2.2.1 101 (by decide) (by decide), S1.2.2.1 103 (by decide) (by decide), S1.2.2.1 104 (by decide) (by decide), S1.2.2.1 105 (by decide) (by decide)]
          exact ⟨p0, y2.trans x1, p2, p3, p4, y3.trans x5, y1.trans x6⟩
        · rw [S1.2.2.2 12 (by decide)]
          exact p12
        · rw [S1.2.2.1 110 (by decide) (by decide)]
          exact pX
        · rw [S1.2.2.1 111 (by decide) (by decide)]
          exact pE
      | succ j ih =>
        intro k h1 hk S1 q0 q13 q
        have M1 := TopM_Sq S1 R.1
        unfold TopM at M1
        have ge : ¬ (10 : Int32) ≤ nI k := fun z => by
          have := (i_Lle (n := 10) (by omega) (by decide)).mp z
          omega
        have c1 : (nI k).toNatClampNeg = k := nI_clamp (by omega)
        have i1 : vp_in (nI k) 10 := vp_in_nI (by omega) (by decide)
        have i1b : vp_in (nI k) 30 := vp_in_nI (by omega) (by decide)
        have s2 : (10 : Int32) + nI k = nI (10 + k) := nI_add 10 k
        have c2 : (nI (10 + k)).toNatClampNeg = 10 + k := nI_clamp (by omega)
        have i2 : vp_in (nI (10 + k)) 30 := vp_in_nI (by omega) (by decide)
        have s3 : (20 : Int32) + nI k = nI (20 + k) := nI_add 20 k
        have c3 : (nI (20 + k)).toNatClampNeg = 20 + k := nI_clamp (by omega)
        have i3 : vp_in (nI (20 + k)) 30 := vp_in_nI (by omega) (by decide)
        have e7 : h1.2.1 117 = h.2.1 117 := S1.2.2.1 117 (by decide) (by decide)
        refine ax_wp_ok (cuts := [ 28]) 90 ?_
        simp only [lv_args, fn0, fn1, fn2, fn3, ax_wp_s, ax_step, ax_ins, ax_nx, ax_cut, ax_lk, ax_st1, ax_st2, ax_ins0, ax_tg, ax_go, ax_sw, ax_lsw, ax_kc_s, ax_kc_n, ax_rf_rf, ax_isR_rf, ct_int, ct_long, ct_ref, ct_null, ct_rf, rf_ref, rf_null, isR_ref, isR_null, va_rf_s, va_rf_n, gv_0, gv_1, gv_2, pv_i, pv_r, pv_n, pv_q, pk_0, pk_2, pk_2n, pk_2q, pk_10, pk_11, rok_i, rok_z0, rok_z1, ex_eq, ex_z, ex_z2, ex_cz, List.filter_cons, List.filter_nil, List.take_succ_cons, List.take_zero, List.drop_succ_cons, List.drop_zero, List.reverse_cons, List.reverse_nil, List.nil_append, List.cons_append, List.append_nil, List.length_cons, List.length_nil, List.map_cons, List.map_nil, List.sum_cons, List.sum_nil, Bool.not_true, Bool.not_false, Bool.and_true, Bool.true_and, Bool.and_false, Bool.false_and, Bool.or_false, Bool.false_or, Bool.true_or, Bool.or_true, beq_self_eq_true, Nat.reduceBEq, Nat.reduceAdd, Nat.reduceSub, Nat.reduceLT, Nat.reduceLeDiff, Nat.reduceEqDiff, Int.reduceAdd, Int.reduceNeg, Int.reduceToNat, Int.reduceLE, Int.reduceNatCast, Int.reduceNatCast', ite_true, ite_false, if_true, if_false, reduceIte, true_and, and_true, false_and, and_false, true_or, or_true, false_or, or_false, Nat.sub_zero, Nat.le_refl, Bool.false_eq_true, Bool.true_eq_false, false_implies, true_implies, implies_true, not_true_eq_false, not_false_eq_true, eq_self, Fin.isValue, Nat.zero_add, Nat.add_zero, and_self, ne_eq, b01, Int32.reduceLT, Int32.reduceLE, z32, z64, vl_0, tl_0, vl_1, tl_1, vl_2, tl_2, vl_3, tl_3, vl_4, tl_4, vl_5, tl_5, vl_6, tl_6, vl_7, tl_7, vl_8, tl_8, vl_9, tl_9, m_X7_back, dX7_back_0, dX7_back_1, fl_6_318, dX7_back_4, dX7_back_7, kb_m3, dX7_back_9, dX7_back_10, dX7_back_11, dX7_back_12, fl_6_322, dX7_back_15, fl_6_84, dX7_back_18, dX7_back_19, dX7_back_20, fl_6_325, dX7_back_23, fl_6_111, dX7_back_26, ki_0, dX7_back_27, dX7_back_28, dX7_back_29, kb_10, dX7_back_31, dX7_back_34, dX7_back_35, fl_6_28, dX7_back_38, dX7_back_39, dX7_back_40, fl_6_40, dX7_back_43, dX7_back_44, dX7_back_45, dX7_back_46, dX7_back_47, fl_6_13, dX7_back_50, dX7_back_51, dX7_back_52, dX7_back_55, dX7_back_57, dX7_back_58, dX7_back_59, dX7_back_60, dX7_back_61, dX7_back_62, fl_6_25, dX7_back_65, dX7_back_66, dX7_back_67, dX7_back_70, kb_20, dX7_back_72, dX7_back_73, dX7_back_74, dX7_back_75, dX7_back_76, ki_1, dX7_back_79, dX7_back_82, dX7_back_83, dX7_back_86, M1, ge, c1, c2, c3, i1, i1b, i2, i3, s2, s3, setI_at, setI_1, setI_22, nI_1]
        refine ih (k + 1) _ (by omega) (Sq_st (Sq_st (Sq_st S1 (by decide) (by decide)) (by decide) (by decide)) (by decide) (by decide)) ?_ ?_ (fun i hi => ?_)
        · simp only [setI_at]
          exact q0
        · simp only [setI_at]
          exact q13
        · simp only [setI_at, e7]
          by_cases e : i = k
          · subst e
            refine ⟨?_, ?_, ?_⟩
            · rw [if_neg (by simp), if_neg (by simp), if_pos (by simp)]
            · rw [if_neg (by simp), if_pos (by simp)]
            · rw [if_pos (by simp)]
          · obtain ⟨y1, y2, y3⟩ := q i (by omega)
            refine ⟨?_, ?_, ?_⟩
            · rw [if_neg (by omega), if_neg (by omega), if_neg (by omega)]
              exact y1
            · rw [if_neg (by omega), if_neg (by omega), if_neg (by omega)]
              exact y2
            · rw [if_neg (by omega), if_neg (by omega), if_neg (by omega)]
              exact y3
    refine ax_intro 6 false cdX7_back (by decide +kernel) (by decide +kernel) (by decide +kernel) (Nat.le_of_ble_eq_true rfl) ?_
    refine ax_wp_ok (cuts := [ 28]) 60 ?_
    simp only [lv_args, fn0, fn1, fn2, fn3, ax_wp_s, ax_step, ax_ins, ax_nx, ax_cut, ax_lk, ax_st1, ax_st2, ax_ins0, ax_tg, ax_go, ax_sw, ax_lsw, ax_kc_s, ax_kc_n, ax_rf_rf, ax_isR_rf, ct_int, ct_long, ct_ref, ct_null, ct_rf, rf_ref, rf_null, isR_ref, isR_null, va_rf_s, va_rf_n, gv_0, gv_1, gv_2, pv_i, pv_r, pv_n, pv_q, pk_0, pk_2, pk_2n, pk_2q, pk_10, pk_11, rok_i, rok_z0, rok_z1, ex_eq, ex_z, ex_z2, ex_cz, List.filter_cons, List.filter_nil, List.take_succ_cons, List.take_zero, List.drop_succ_cons, List.drop_zero, List.reverse_cons, List.reverse_nil, List.nil_append, List.cons_append, List.append_nil, List.length_cons, List.length_nil, List.map_cons, List.map_nil, List.sum_cons, List.sum_nil, Bool.not_true, Bool.not_false, Bool.and_true, Bool.true_and, Bool.and_false, Bool.false_and, Bool.or_false, Bool.false_or, Bool.true_or, Bool.or_true, beq_self_eq_true, Nat.reduceBEq, Nat.reduceAdd, Nat.reduceSub, Nat.reduceLT, Nat.reduceLeDiff, Nat.reduceEqDiff, Int.reduceAdd, Int.reduceNeg, Int.reduceToNat, Int.reduceLE, Int.reduceNatCast, Int.reduceNatCast', ite_true, ite_false, if_true, if_false, reduceIte, true_and, and_true, false_and, and_false, true_or, or_true, false_or, or_false, Nat.sub_zero, Nat.le_refl, Bool.false_eq_true, Bool.true_eq_false, false_implies, true_implies, implies_true, not_true_eq_false, not_false_eq_true, eq_self, Fin.isValue, Nat.zero_add, Nat.add_zero, and_self, ne_eq, b01, Int32.reduceLT, Int32.reduceLE, z32, z64, vl_0, tl_0, vl_1, tl_1, vl_2, tl_2, vl_3, tl_3, vl_4, tl_4, vl_5, tl_5, vl_6, tl_6, vl_7, tl_7, vl_8, tl_8, vl_9, tl_9, m_X7_back, dX7_back_0, dX7_back_1, fl_6_318, dX7_back_4, dX7_back_7, kb_m3, dX7_back_9, dX7_back_10, dX7_back_11, dX7_back_12, fl_6_322, dX7_back_15, fl_6_84, dX7_back_18, dX7_back_19, dX7_back_20, fl_6_325, dX7_back_23, fl_6_111, dX7_back_26, ki_0, dX7_back_27, dX7_back_28, dX7_back_29, kb_10, dX7_back_31, dX7_back_34, dX7_back_35, fl_6_28, dX7_back_38, dX7_back_39, dX7_back_40, fl_6_40, dX7_back_43, dX7_back_44, dX7_back_45, dX7_back_46, dX7_back_47, fl_6_13, dX7_back_50, dX7_back_51, dX7_back_52, dX7_back_55, dX7_back_57, dX7_back_58, dX7_back_59, dX7_back_60, dX7_back_61, dX7_back_62, fl_6_25, dX7_back_65, dX7_back_66, dX7_back_67, dX7_back_70, kb_20, dX7_back_72, dX7_back_73, dX7_back_74, dX7_back_75, dX7_back_76, ki_1, dX7_back_79, dX7_back_82, dX7_back_83, dX7_back_86, M, q14, one, q15, q16, setI_at, setI_1, setI_22]
    refine lp 10 0 _ rfl (Sq_f (Sq_f (Sq_rf _ _ _) (by decide)) (by decide)) ?_ ?_ (fun i hi => by omega)
    · simp only [setI_at]
      rfl
    · simp only [setI_at]
      rfl
  · simp only [if_neg hI]
    have q14 := RI.1
    rw [if_neg hI] at q14
    refine ax_intro 6 false cdX7_back (by decide +kernel) (by decide +kernel) (by decide +kernel) (Nat.le_of_ble_eq_true rfl) ?_
    refine ax_wp_ok (cuts := [ 28]) 60 ?_
    simp only [lv_args, fn0, fn1, fn2, fn3, ax_wp_s, ax_step, ax_ins, ax_nx, ax_cut, ax_lk, ax_st1, ax_st2, ax_ins0, ax_tg, ax_go, ax_sw, ax_lsw, ax_kc_s, ax_kc_n, ax_rf_rf, ax_isR_rf, ct_int, ct_long, ct_ref, ct_null, ct_rf, rf_ref, rf_null, isR_ref, isR_null, va_rf_s, va_rf_n, gv_0, gv_1, gv_2, pv_i, pv_r, pv_n, pv_q, pk_0, pk_2, pk_2n, pk_2q, pk_10, pk_11, rok_i, rok_z0, rok_z1, ex_eq, ex_z, ex_z2, ex_cz, List.filter_cons, List.filter_nil, List.take_succ_cons, List.take_zero, List.drop_succ_cons, List.drop_zero, List.reverse_cons, List.reverse_nil, List.nil_append, List.cons_append, List.append_nil, List.length_cons, List.length_nil, List.map_cons, List.map_nil, List.sum_cons, List.sum_nil, Bool.not_true, Bool.not_false, Bool.and_true, Bool.true_and, Bool.and_false, Bool.false_and, Bool.or_false, Bool.false_or, Bool.true_or, Bool.or_true, beq_self_eq_true, Nat.reduceBEq, Nat.reduceAdd, Nat.reduceSub, Nat.reduceLT, Nat.reduceLeDiff, Nat.reduceEqDiff, Int.reduceAdd, Int.reduceNeg, Int.reduceToNat, Int.reduceLE, Int.reduceNatCast, Int.reduceNatCast', ite_true, ite_false, if_true, if_false, reduceIte, true_and, and_true, false_and, and_false, true_or, or_true, false_or, or_false, Nat.sub_zero, Nat.le_refl, Bool.false_eq_true, Bool.true_eq_false, false_implies, true_implies, implies_true, not_true_eq_false, not_false_eq_true, eq_self, Fin.isValue, Nat.zero_add, Nat.add_zero, and_self, ne_eq, b01, Int32.reduceLT, Int32.reduceLE, z32, z64, vl_0, tl_0, vl_1, tl_1, vl_2, tl_2, vl_3, tl_3, vl_4, tl_4, vl_5, tl_5, vl_6, tl_6, vl_7, tl_7, vl_8, tl_8, vl_9, tl_9, m_X7_back, dX7_back_0, dX7_back_1, fl_6_318, dX7_back_4, dX7_back_7, kb_m3, dX7_back_9, dX7_back_10, dX7_back_11, dX7_back_12, fl_6_322, dX7_back_15, fl_6_84, dX7_back_18, dX7_back_19, dX7_back_20, fl_6_325, dX7_back_23, fl_6_111, dX7_back_26, ki_0, dX7_back_27, dX7_back_28, dX7_back_29, kb_10, dX7_back_31, dX7_back_34, dX7_back_35, fl_6_28, dX7_back_38, dX7_back_39, dX7_back_40, fl_6_40, dX7_back_43, dX7_back_44, dX7_back_45, dX7_back_46, dX7_back_47, fl_6_13, dX7_back_50, dX7_back_51, dX7_back_52, dX7_back_55, dX7_back_57, dX7_back_58, dX7_back_59, dX7_back_60, dX7_back_61, dX7_back_62, fl_6_25, dX7_back_65, dX7_back_66, dX7_back_67, dX7_back_70, kb_20, dX7_back_72, dX7_back_73, dX7_back_74, dX7_back_75, dX7_back_76, ki_1, dX7_back_79, dX7_back_82, dX7_back_83, dX7_back_86, M, q14]
    exact ⟨Sq_rf _ _ _, R⟩
end MS2
