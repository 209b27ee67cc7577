-- deps: 14 15
/-! sheets: sort, size, cells -/
def RMS (ss : Nat → Int32) (sz : Nat → Nat) (sc : Nat → Nat → Int32) (h : AH) : Prop := ∀ s, s < 4 → h.2.1 118 s = ss s ∧ h.2.1 119 s = nI (sz s) ∧ ∀ k, k < 40 → h.2.1 120 (40 * s + k) = sc s k
def WFS (ss : Nat → Int32) (sz : Nat → Nat) : Prop := ∀ s, s < 4 → sz s ≤ 40 ∧ (ss s = -1 ∨ ss s = 0 ∨ ss s = 1 ∨ ss s = 2) ∧ (ss s = -1 → sz s = 0)
theorem RMS_Sm {l : List Nat} {ss : Nat → Int32} {sz : Nat → Nat} {sc : Nat → Nat → Int32} {h h' : AH} (S : Sm l h h') (R : RMS ss sz sc h) (hl : 118 ∉ l ∧ 119 ∉ l ∧ 120 ∉ l) : RMS ss sz sc h' := by
  unfold RMS at R ⊢
  rw [S.2.2 _ hl.1, S.2.2 _ hl.2.1, S.2.2 _ hl.2.2]
  exact R
/-- an answer from 1 on; 0: none -/
def s_ua (x : Nat) : Int32 := if x = 0 then -1 else nI x
theorem s_unl_le (A : Nat → List Nat) (B : SB) (l : List Nat) (C : Nat → Int32) : ∀ m r, s_unl A B l C r m ≤ r + m
  | 0, r => Nat.zero_le _
  | m + 1, r => by
    unfold s_unl
    split
    · have := s_unl_le A B l C m (r + 1)
      omega
    · omega
theorem s_ua_m1 {x : Nat} (hx : x < 2 ^ 31) : (s_ua x = -1) = (x = 0) := by
  unfold s_ua
  by_cases h : x = 0
  · rw [if_pos h]
    exact propext ⟨fun _ => h, fun _ => rfl⟩
  · rw [if_neg h]
    exact propext ⟨fun q => absurd q (i_nm1 hx), fun q => absurd q h⟩
theorem RMB_upk {n : Nat} {B : SB} {h : AH} (R : RMB n B h) (k b v : Nat) (hk : k = 1 ∨ k = 5) : RMB n (s_up B b k v) (ax_setI h (101 + k) b (nI v)) := by
  refine ⟨?_, fun i hi => ?_⟩
  · rw [setI_at, if_neg (by omega)]
    exact R.1
  · obtain ⟨r0, r1, r2, r3, r4, r5, r6⟩ := R.2 i hi
    have e : ∀ k', k' ≠ k → s_up B b k v i k' = B i k' := fun k' hk' => by rw [s_up_at, if_neg (by omega)]
    have g : ∀ a, a ≠ 101 + k → (ax_setI h (101 + k) b (nI v)).2.1 a i = h.2.1 a i := fun a ha => by rw [setI_at, if_neg (by omega)]
    have g2 : (ax_setI h (101 + k) b (nI v)).2.1 (101 + k) i = nI (s_up B b k v i k) ∨ i ≠ b := by
      by_cases hib : i = b
      · exact Or.inl (by rw [setI_at, s_up_at, if_pos ⟨rfl, hib⟩, if_pos ⟨hib, rfl⟩])
      · exact Or.inr hib
    rcases hk with rfl | rfl
    · rw [e 0 (by decide), e 2 (by decide), e 3 (by decide), e 4 (by decide), e 5 (by decide), e 6 (by decide), g 101 (by decide), g 103 (by decide), g 104 (by decide), g 105 (by decide), g 106 (by decide), g 107 (by decide)]
      refine ⟨r0, ?_, r2, r3, r4, r5, r6⟩
      rcases g2 with q | q
      · exact q
      · rw [setI_at, if_neg (fun z => q z.2), s_up_at, if_neg (fun z => q z.1)]
        exact r1
    · rw [e 0 (by decide), e 1 (by decide), e 2 (by decide), e 3 (by decide), e 4 (by decide), e 6 (by decide), g 101 (by decide), g 102 (by decide), g 103 (by decide), g 104 (by decide), g 105 (by decide), g 107 (by decide)]
      refine ⟨r0, r1, r2, r3, r4, ?_, r6⟩
      rcases g2 with q | q
      · exact q
      · rw [setI_at, if_neg (fun z => q z.2), s_up_at, if_neg (fun z => q z.1)]
        exact r5
theorem RC_upk {n : Nat} {B : SB} {T r : Nat} {X E : Nat → Nat → Nat} {h : AH} (R : RC n B T r X E h) (k b v : Nat) (hk : k = 1 ∨ k = 5) : RC n (s_up B b k v) T r X E (ax_setI h (101 + k) b (nI v)) :=
  ⟨TopM_Sm (Sm_I (l := [101 + k]) (.head _)) R.1, RMB_upk R.2.1 k b v hk, RML_Sm (Sm_I (l := [101 + k]) (.head _)) R.2.2 (by rcases hk with rfl | rfl <;> decide)⟩
def s_bl (B : SB) (b m : Nat) : SB := s_up (s_up B b 1 2) b 5 m
theorem WFB_bl {n : Nat} {B : SB} (W : WFB n B) {b m : Nat} (hm : m ≤ 9) : WFB n (s_bl B b m) := by
  refine ⟨W.1, fun i hi => ?_⟩
  obtain ⟨w0, w1, w2, w2b, w3, w4, w5, w6⟩ := W.2 i hi
  unfold s_bl
  simp only [s_up_at]
  refine ⟨by simpa using w0, ?_, by simpa using w2, by simpa using w2b, by simpa using w3, by simpa using w4, ?_, by simpa using w6⟩
  · simp only [Nat.reduceEqDiff, and_false, if_false, and_true]
    split
    · omega
    · exact w1
  · simp only [Nat.reduceEqDiff, and_false, if_false, and_true]
    split
    · exact hm
    · exact w5
theorem s_bl_back (B : SB) (b m : Nat) : s_up (s_up (s_bl B b m) b 1 (B b 1)) b 5 (B b 5) = B := by
  funext i j
  unfold s_bl
  simp only [s_up_at]
  by_cases hi : i = b
  · subst hi
    by_cases h5 : j = 5
    · subst h5
      simp
    · by_cases h1 : j = 1
      · subst h1
        simp
      · simp [h5, h1]
  · simp [hi]
theorem s_fl_bl (B : SB) (b m u : Nat) : s_fl (s_bl B b m) u = s_fl B u := by
  unfold s_bl
  rw [s_fl_up _ (by decide), s_fl_up _ (by decide)]
section MB4
variable {G : AG} {h : AH} {n : Nat} {B : SB} {T r : Nat} {X E : Nat → Nat → Nat} {ss : Nat → Int32} {sz : Nat → Nat} {sc : Nat → Nat → Int32}
set_option maxRecDepth 100000 in
set_option maxHeartbeats 400000 in
theorem c_X7_unlike (W : WC n B T r X E) (WS : WFS ss sz) (R : RC n B T r X E h) (RS : RMS ss sz sc h) {s k : Nat} (hs : s < 4) (hk : k < n) : AC G jX7_unlike 6 0 0 [.ref 100, .int (nI s), .int (nI k)] h (fun v h' => v = some (.int (s_ua (s_unl (s_L X E r) B (s_fl B (k + 1)) (sc s) 0 (sz s)))) ∧ Sm [131, 132] h h') := by
  have hz := (WS s hs).1
  have lp : ∀ (m j : Nat) (h1 : AH), j + m = sz s → Sm [131, 132] h h1 → AW G 6 4 false cX7_unlike (Option.some FieldType.int) 6 (fun v h' => v = some (.int (s_ua (s_unl (s_L X E r) B (s_fl B (k + 1)) (sc s) j m))) ∧ Sm [131, 132] h h') 0 0 2 [(0, .ref 100), (1, .int (nI s)), (2, .int (nI k)), (3, .int (nI (j + 1)))] [] h1 := by
    intro m
    induction m with
    | zero =>
      intro j h1 hj S1
      have M1 := TopM_Sm S1 R.1
      unfold TopM at M1
      obtain ⟨q1, q2, q3⟩ := RMS_Sm S1 RS (by decide) s hs
      have hc : (nI s).toNatClampNeg = s := nI_clamp (by omega)
      have hin : vp_in (nI s) 4 := vp_in_nI hs (by decide)
      have hlt : nI (sz s) < nI (j + 1) := (nI_ltI (by omega) (by omega)).mpr (by omega)
      refine ax_wp_ok (cuts := [ 2]) 40 ?_
      simp only [lv_args, fn0, fn1, fn2, fn3, ax_wp_s, ax_step, ax_ins, ax_nx, ax_cut, ax_lk, ax_st1, ax_st2, ax_ins0, ax_tg, ax_go, ax_sw, ax_lsw, ax_kc_s, ax_kc_n, ax_rf_rf, ax_isR_rf, ct_int, ct_long, ct_ref, ct_null, ct_rf, rf_ref, rf_null, isR_ref, isR_null, va_rf_s, va_rf_n, gv_0, gv_1, gv_2, pv_i, pv_r, pv_n, pv_q, pk_0, pk_2, pk_2n, pk_2q, pk_10, pk_11, rok_i, rok_z0, rok_z1, ex_eq, ex_z, ex_z2, ex_cz, List.filter_cons, List.filter_nil, List.take_succ_cons, List.take_zero, List.drop_succ_cons, List.drop_zero, List.reverse_cons, List.reverse_nil, List.nil_append, List.cons_append, List.append_nil, List.length_cons, List.length_nil, List.map_cons, List.map_nil, List.sum_cons, List.sum_nil, Bool.not_true, Bool.not_false, Bool.and_true, Bool.true_and, Bool.and_false, Bool.false_and, Bool.or_false, Bool.false_or, Bool.true_or, Bool.or_true, beq_self_eq_true, Nat.reduceBEq, Nat.reduceAdd, Nat.reduceSub, Nat.reduceLT, Nat.reduceLeDiff, Nat.reduceEqDiff, Int.reduceAdd, Int.reduceNeg, Int.reduceToNat, Int.reduceLE, Int.reduceNatCast, Int.reduceNatCast', ite_true, ite_false, if_true, if_false, reduceIte, true_and, and_true, false_and, and_false, true_or, or_true, false_or, or_false, Nat.sub_zero, Nat.le_refl, Bool.false_eq_true, Bool.true_eq_false, false_implies, true_implies, implies_true, not_true_eq_false, not_false_eq_true, eq_self, Fin.isValue, Nat.zero_add, Nat.add_zero, and_self, ne_eq, b01, Int32.reduceLT, Int32.reduceLE, z32, z64, vl_0, tl_0, vl_1, tl_1, vl_2, tl_2, vl_3, tl_3, vl_4, tl_4, vl_5, tl_5, vl_6, tl_6, vl_7, tl_7, vl_8, tl_8, vl_9, tl_9, m_X7_unlike, dX7_unlike_0, ki_1, dX7_unlike_1, dX7_unlike_2, dX7_unlike_3, dX7_unlike_4, fl_6_46, dX7_unlike_7, dX7_unlike_8, dX7_unlike_9, dX7_unlike_12, dX7_unlike_13, fl_6_49, dX7_unlike_16, kb_40, dX7_unlike_18, dX7_unlike_19, dX7_unlike_20, dX7_unlike_21, dX7_unlike_22, dX7_unlike_23, dX7_unlike_24, dX7_unlike_25, dX7_unlike_26, dX7_unlike_27, dX7_unlike_28, cl_6_214, dX7_unlike_31, dX7_unlike_34, dX7_unlike_35, dX7_unlike_36, dX7_unlike_39, dX7_unlike_42, ki_m1, dX7_unlike_43, M1, q2, hc, hin, hlt]
      exact ⟨rfl, S1⟩
    | succ m ih =>
      intro j h1 hj S1
      have R1 := RC_Sm S1 R (by decide)
      have M1 := R1.1
      unfold TopM at M1
      obtain ⟨q1, q2, q3⟩ := RMS_Sm S1 RS (by decide) s hs
      have hc : (nI s).toNatClampNeg = s := nI_clamp (by omega)
      have hin : vp_in (nI s) 4 := vp_in_nI hs (by decide)
      have hlt : ¬ nI (sz s) < nI (j + 1) := fun z => by
        have := (nI_ltI (by omega) (by omega)).mp z
        omega
      have e1 : (40 : Int32) * nI s + nI (j + 1) - 1 = nI (40 * s + j) := by
        rw [show (40 : Int32) = nI 40 from rfl, pk_mul, nI_add, show 40 * s + (j + 1) = (40 * s + j) + 1 from rfl, i_m1]
      have e2 : (nI (40 * s + j)).toNatClampNeg = 40 * s + j := nI_clamp (by omega)
      have e3 : vp_in (nI (40 * s + j)) 160 := vp_in_nI (by omega) (by decide)
      refine ax_wp_ok (cuts := [ 2]) 60 ?_
      simp only [lv_args, fn0, fn1, fn2, fn3, ax_wp_s, ax_step, ax_ins, ax_nx, ax_cut, ax_lk, ax_st1, ax_st2, ax_ins0, ax_tg, ax_go, ax_sw, ax_lsw, ax_kc_s, ax_kc_n, ax_rf_rf, ax_isR_rf, ct_int, ct_long, ct_ref, ct_null, ct_rf, rf_ref, rf_null, isR_ref, isR_null, va_rf_s, va_rf_n, gv_0, gv_1, gv_2, pv_i, pv_r, pv_n, pv_q, pk_0, pk_2, pk_2n, pk_2q, pk_10, pk_11, rok_i, rok_z0, rok_z1, ex_eq, ex_z, ex_z2, ex_cz, List.filter_cons, List.filter_nil, List.take_succ_cons, List.take_zero, List.drop_succ_cons, List.drop_zero, List.reverse_cons, List.reverse_nil, List.nil_append, List.cons_append, List.append_nil, List.length_cons, List.length_nil, List.map_cons, List.map_nil, List.sum_cons, List.sum_nil, Bool.not_true, Bool.not_false, Bool.and_true, Bool.true_and, Bool.and_false, Bool.false_and, Bool.or_false, Bool.false_or, Bool.true_or, Bool.or_true, beq_self_eq_true, Nat.reduceBEq, Nat.reduceAdd, Nat.reduceSub, Nat.reduceLT, Nat.reduceLeDiff, Nat.reduceEqDiff, Int.reduceAdd, Int.reduceNeg, Int.reduceToNat, Int.reduceLE, Int.reduceNatCast, Int.reduceNatCast', ite_true, ite_false, if_true, if_false, reduceIte, true_and, and_true, false_and, and_false, true_or, or_true, false_or, or_false, Nat.sub_zero, Nat.le_refl, Bool.false_eq_true, Bool.true_eq_false, false_implies, true_implies, implies_true, not_true_eq_false, not_false_eq_true, eq_self, Fin.isValue, Nat.zero_add, Nat.add_zero, and_self, ne_eq, b01, Int32.reduceLT, Int32.reduceLE, z32, z64, vl_0, tl_0, vl_1, tl_1, vl_2, tl_2, vl_3, tl_3, vl_4, tl_4, vl_5, tl_5, vl_6, tl_6, vl_7, tl_7, vl_8, tl_8, vl_9, tl_9, m_X7_unlike, dX7_unlike_0, ki_1, dX7_unlike_1, dX7_unlike_2, dX7_unlike_3, dX7_unlike_4, fl_6_46, dX7_unlike_7, dX7_unlike_8, dX7_unlike_9, dX7_unlike_12, dX7_unlike_13, fl_6_49, dX7_unlike_16, kb_40, dX7_unlike_18, dX7_unlike_19, dX7_unlike_20, dX7_unlike_21, dX7_unlike_22, dX7_unlike_23, dX7_unlike_24, dX7_unlike_25, dX7_unlike_26, dX7_unlike_27, dX7_unlike_28, cl_6_214, dX7_unlike_31, dX7_unlike_34, dX7_unlike_35, dX7_unlike_36, dX7_unlike_39, dX7_unlike_42, ki_m1, dX7_unlike_43, M1, q2, hc, hin, hlt, e1, e2, e3, q3 j (by omega)]
      refine ax_cv (c_X7_heavyAt W R1 hk (rods := j + 1) (by omega)) (by decide) (fun h2 S2 => ?_)
      have := ih (j + 1) h2 (by omega) (Sm_t2 S1 S2 (by decide))
      simp only [lv_args, fn0, fn1, fn2, fn3, ax_wp_s, ax_step, ax_ins, ax_nx, ax_cut, ax_lk, ax_st1, ax_st2, ax_ins0, ax_tg, ax_go, ax_sw, ax_lsw, ax_kc_s, ax_kc_n, ax_rf_rf, ax_isR_rf, ct_int, ct_long, ct_ref, ct_null, ct_rf, rf_ref, rf_null, isR_ref, isR_null, va_rf_s, va_rf_n, gv_0, gv_1, gv_2, pv_i, pv_r, pv_n, pv_q, pk_0, pk_2, pk_2n, pk_2q, pk_10, pk_11, rok_i, rok_z0, rok_z1, ex_eq, ex_z, ex_z2, ex_cz, List.filter_cons, List.filter_nil, List.take_succ_cons, List.take_zero, List.drop_succ_cons, List.drop_zero, List.reverse_cons, List.reverse_nil, List.nil_append, List.cons_append, List.append_nil, List.length_cons, List.length_nil, List.map_cons, List.map_nil, List.sum_cons, List.sum_nil, Bool.not_true, Bool.not_false, Bool.and_true, Bool.true_and, Bool.and_false, Bool.false_and, Bool.or_false, Bool.false_or, Bool.true_or, Bool.or_true, beq_self_eq_true, Nat.reduceBEq, Nat.reduceAdd, Nat.reduceSub, Nat.reduceLT, Nat.reduceLeDiff, Nat.reduceEqDiff, Int.reduceAdd, Int.reduceNeg, Int.reduceToNat, Int.reduceLE, Int.reduceNatCast, Int.reduceNatCast', ite_true, ite_false, if_true, if_false, reduceIte, true_and, and_true, false_and, and_false, true_or, or_true, false_or, or_false, Nat.sub_zero, Nat.le_refl, Bool.false_eq_true, Bool.true_eq_false, false_implies, true_implies, implies_true, not_true_eq_false, not_false_eq_true, eq_self, Fin.isValue, Nat.zero_add, Nat.add_zero, and_self, ne_eq, b01, Int32.reduceLT, Int32.reduceLE, z32, z64, vl_0, tl_0, vl_1, tl_1, vl_2, tl_2, vl_3, tl_3, vl_4, tl_4, vl_5, tl_5, vl_6, tl_6, vl_7, tl_7, vl_8, tl_8, vl_9, tl_9, m_X7_unlike, dX7_unlike_0, ki_1, dX7_unlike_1, dX7_unlike_2, dX7_unlike_3, dX7_unlike_4, fl_6_46, dX7_unlike_7, dX7_unlike_8, dX7_unlike_9, dX7_unlike_12, dX7_unlike_13, fl_6_49, dX7_unlike_16, kb_40, dX7_unlike_18, dX7_unlike_19, dX7_unlike_20, dX7_unlike_21, dX7_unlike_22, dX7_unlike_23, dX7_unlike_24, dX7_unlike_25, dX7_unlike_26, dX7_unlike_27, dX7_unlike_28, cl_6_214, dX7_unlike_31, dX7_unlike_34, dX7_unlike_35, dX7_unlike_36, dX7_unlike_39, dX7_unlike_42, ki_m1, dX7_unlike_43, nI_1]
      rw [show s_unl (s_L X E r) B (s_fl B (k + 1)) (sc s) j (m + 1) = if sc s j = nI (s_hv (s_L X E r) B (s_fl B (k + 1)) (j + 1)) - 1 then s_unl (s_L X E r) B (s_fl B (k + 1)) (sc s) (j + 1) m else j + 1 from rfl]
      refine ⟨fun z => ?_, fun z => ?_⟩
      · rw [if_pos z]
        exact this
      · rw [if_neg z]
        refine ⟨?_, Sm_t2 S1 S2 (by decide)⟩
        unfold s_ua
        rw [if_neg (by omega)]
  refine ax_intro 6 false cdX7_unlike (by decide +kernel) (by decide +kernel) (by decide +kernel) (Nat.le_of_ble_eq_true rfl) ?_
  refine ax_wp_ok (cuts := [ 2]) 30 ?_
  simp only [lv_args, fn0, fn1, fn2, fn3, ax_wp_s, ax_step, ax_ins, ax_nx, ax_cut, ax_lk, ax_st1, ax_st2, ax_ins0, ax_tg, ax_go, ax_sw, ax_lsw, ax_kc_s, ax_kc_n, ax_rf_rf, ax_isR_rf, ct_int, ct_long, ct_ref, ct_null, ct_rf, rf_ref, rf_null, isR_ref, isR_null, va_rf_s, va_rf_n, gv_0, gv_1, gv_2, pv_i, pv_r, pv_n, pv_q, pk_0, pk_2, pk_2n, pk_2q, pk_10, pk_11, rok_i, rok_z0, rok_z1, ex_eq, ex_z, ex_z2, ex_cz, List.filter_cons, List.filter_nil, List.take_succ_cons, List.take_zero, List.drop_succ_cons, List.drop_zero, List.reverse_cons, List.reverse_nil, List.nil_append, List.cons_append, List.append_nil, List.length_cons, List.length_nil, List.map_cons, List.map_nil, List.sum_cons, List.sum_nil, Bool.not_true, Bool.not_false, Bool.and_true, Bool.true_and, Bool.and_false, Bool.false_and, Bool.or_false, Bool.false_or, Bool.true_or, Bool.or_true, beq_self_eq_true, Nat.reduceBEq, Nat.reduceAdd, Nat.reduceSub, Nat.reduceLT, Nat.reduceLeDiff, Nat.reduceEqDiff, Int.reduceAdd, Int.reduceNeg, Int.reduceToNat, Int.reduceLE, Int.reduceNatCast, Int.reduceNatCast', ite_true, ite_false, if_true, if_false, reduceIte, true_and, and_true, false_and, and_false, true_or, or_true, false_or, or_false, Nat.sub_zero, Nat.le_refl, Bool.false_eq_true, Bool.true_eq_false, false_implies, true_implies, implies_true, not_true_eq_false, not_false_eq_true, eq_self, Fin.isValue, Nat.zero_add, Nat.add_zero, and_self, ne_eq, b01, Int32.reduceLT, Int32.reduceLE, z32, z64, vl_0, tl_0, vl_1, tl_1, vl_2, tl_2, vl_3, tl_3, vl_4, tl_4, vl_5, tl_5, vl_6, tl_6, vl_7, tl_7, vl_8, tl_8, vl_9, tl_9, m_X7_unlike, dX7_unlike_0, ki_1, dX7_unlike_1, dX7_unlike_2, dX7_unlike_3, dX7_unlike_4, fl_6_46, dX7_unlike_7, dX7_unlike_8, dX7_unlike_9, dX7_unlike_12, dX7_unlike_13, fl_6_49, dX7_unlike_16, kb_40, dX7_unlike_18, dX7_unlike_19, dX7_unlike_20, dX7_unlike_21, dX7_unlike_22, dX7_unlike_23, dX7_unlike_24, dX7_unlike_25, dX7_unlike_26, dX7_unlike_27, dX7_unlike_28, cl_6_214, dX7_unlike_31, dX7_unlike_34, dX7_unlike_35, dX7_unlike_36, dX7_unlike_39, dX7_unlike_42, ki_m1, dX7_unlike_43]
  exact lp (sz s) 0 h (by omega) (Sm_rf _ _)
set_option maxRecDepth 100000 in
set_option maxHeartbeats 400000 in
theorem c_X7_fitsBlocked (W : WC n B T r X E) (WS : WFS ss sz) (R : RC n B T r X E h) (RS : RMS ss sz sc h) {s k b m : Nat} (hs : s < 4) (hk : k < n) (hb : b < n) (hm : m ≤ 9) : AC G jX7_fitsBlocked 7 0 0 [.ref 100, .int (nI s), .int (nI k), .int (nI b), .int (nI m)] h (fun v h' => v = some (.int (if s_unl (s_L X E r) (s_bl B b m) (s_fl B (k + 1)) (sc s) 0 (sz s) = 0 then 1 else 0)) ∧ Sm [102, 106, 131, 132] h h' ∧ RC n B T r X E h') := by
  have M := R.1
  unfold TopM at M
  have R0 := R
  have W0 := W
  have R2 := RC_upk (RC_upk R 1 b 2 (Or.inl rfl)) 5 b m (Or.inr rfl)
  have S2 : ∀ x y : Int32, Sm [102, 106, 131, 132] h (ax_setI (ax_setI h 102 b x) 106 b y) := fun x y => Sm_st (Sm_I (.head _)) (.tail _ (.head _))
  have R := R.2.1
  have W := W.1
  have hV := hb
  have hv31 : b < 2 ^ 31 := by have := W.1; omega
  have hc : (nI b).toNatClampNeg = b := nI_clamp hv31
  have hin : vp_in (nI b) 10 := vp_in_nI (by have := W.1; omega) (by decide)
  have hm1 : ¬ nI b = -1 := i_nm1 hv31
  obtain ⟨r0, r1, r2, r3, r4, r5, r6⟩ := R.2 b hV
  obtain ⟨w0, w1, w2, w2b, w3, w4, w5, w6⟩ := W.2 b hV
  refine ax_intro 6 false cdX7_fitsBlocked (by decide +kernel) (by decide +kernel) (by decide +kernel) (Nat.le_of_ble_eq_true rfl) ?_
  refine ax_wp_ok (cuts := []) 60 ?_
  simp only [lv_args, fn0, fn1, fn2, fn3, ax_wp_s, ax_step, ax_ins, ax_nx, ax_cut, ax_lk, ax_st1, ax_st2, ax_ins0, ax_tg, ax_go, ax_sw, ax_lsw, ax_kc_s, ax_kc_n, ax_rf_rf, ax_isR_rf, ct_int, ct_long, ct_ref, ct_null, ct_rf, rf_ref, rf_null, isR_ref, isR_null, va_rf_s, va_rf_n, gv_0, gv_1, gv_2, pv_i, pv_r, pv_n, pv_q, pk_0, pk_2, pk_2n, pk_2q, pk_10, pk_11, rok_i, rok_z0, rok_z1, ex_eq, ex_z, ex_z2, ex_cz, List.filter_cons, List.filter_nil, List.take_succ_cons, List.take_zero, List.drop_succ_cons, List.drop_zero, List.reverse_cons, List.reverse_nil, List.nil_append, List.cons_append, List.append_nil, List.length_cons, List.length_nil, List.map_cons, List.map_nil, List.sum_cons, List.sum_nil, Bool.not_true, Bool.not_false, Bool.and_true, Bool.true_and, Bool.and_false, Bool.false_and, Bool.or_false, Bool.false_or, Bool.true_or, Bool.or_true, beq_self_eq_true, Nat.reduceBEq, Nat.reduceAdd, Nat.reduceSub, Nat.reduceLT, Nat.reduceLeDiff, Nat.reduceEqDiff, Int.reduceAdd, Int.reduceNeg, Int.reduceToNat, Int.reduceLE, Int.reduceNatCast, Int.reduceNatCast', ite_true, ite_false, if_true, if_false, reduceIte, true_and, and_true, false_and, and_false, true_or, or_true, false_or, or_false, Nat.sub_zero, Nat.le_refl, Bool.false_eq_true, Bool.true_eq_false, false_implies, true_implies, implies_true, not_true_eq_false, not_false_eq_true, eq_self, Fin.isValue, Nat.zero_add, Nat.add_zero, and_self, ne_eq, b01, Int32.reduceLT, Int32.reduceLE, z32, z64, vl_0, tl_0, vl_1, tl_1, vl_2, tl_2, vl_3, tl_3, vl_4, tl_4, vl_5, tl_5, vl_6, tl_6, vl_7, tl_7, vl_8, tl_8, vl_9, tl_9, m_X7_fitsBlocked, dX7_fitsBlocked_0, dX7_fitsBlocked_1, fl_6_13, dX7_fitsBlocked_4, dX7_fitsBlocked_5, dX7_fitsBlocked_6, dX7_fitsBlocked_8, dX7_fitsBlocked_9, fl_6_25, dX7_fitsBlocked_12, dX7_fitsBlocked_13, dX7_fitsBlocked_14, dX7_fitsBlocked_16, dX7_fitsBlocked_17, dX7_fitsBlocked_20, dX7_fitsBlocked_21, ki_2, dX7_fitsBlocked_22, dX7_fitsBlocked_23, dX7_fitsBlocked_24, dX7_fitsBlocked_27, dX7_fitsBlocked_28, dX7_fitsBlocked_30, dX7_fitsBlocked_31, dX7_fitsBlocked_32, dX7_fitsBlocked_33, dX7_fitsBlocked_34, cl_6_294, dX7_fitsBlocked_37, ki_m1, dX7_fitsBlocked_38, dX7_fitsBlocked_41, ki_1, dX7_fitsBlocked_42, dX7_fitsBlocked_45, ki_0, dX7_fitsBlocked_46, dX7_fitsBlocked_48, dX7_fitsBlocked_49, dX7_fitsBlocked_52, dX7_fitsBlocked_53, dX7_fitsBlocked_55, dX7_fitsBlocked_56, dX7_fitsBlocked_57, dX7_fitsBlocked_60, dX7_fitsBlocked_61, dX7_fitsBlocked_63, dX7_fitsBlocked_64, dX7_fitsBlocked_66, M, hc, hin, r1, r5, setI_at, setI_1, setI_22]
  refine ax_cv (c_X7_unlike (B := s_bl B b m) ⟨WFB_bl W hm, W0.2⟩ WS R2 (RMS_Sm (S2 _ _) RS (by decide)) hs hk) (by decide) (fun h3 S3 => ?_)
  have R3 := RC_Sm S3 R2 (by decide)
  have M3 := R3.1
  unfold TopM at M3
  rw [s_fl_bl]
  have hle := s_unl_le (s_L X E r) (s_bl B b m) (s_fl B (k + 1)) (sc s) (sz s) 0
  have hz := (WS s hs).1
  have em := s_ua_m1 (x := s_unl (s_L X E r) (s_bl B b m) (s_fl B (k + 1)) (sc s) 0 (sz s)) (by omega)
  have R4 := RC_upk (RC_upk R3 1 b (B b 1) (Or.inl rfl)) 5 b (B b 5) (Or.inr rfl)
  rw [show s_up (s_up (s_up (s_up B b 1 2) b 5 m) b 1 (B b 1)) b 5 (B b 5) = B from s_bl_back B b m] at R4
  have S4 := Sm_st (k := b) (x := nI (B b 5)) (Sm_st (k := b) (x := nI (B b 1)) (Sm_t2 (S2 (nI 2) (nI m)) S3 (by decide)) (.head _)) (.tail _ (.head _))
  simp only [lv_args, fn0, fn1, fn2, fn3, ax_wp_s, ax_step, ax_ins, ax_nx, ax_cut, ax_lk, ax_st1, ax_st2, ax_ins0, ax_tg, ax_go, ax_sw, ax_lsw, ax_kc_s, ax_kc_n, ax_rf_rf, ax_isR_rf, ct_int, ct_long, ct_ref, ct_null, ct_rf, rf_ref, rf_null, isR_ref, isR_null, va_rf_s, va_rf_n, gv_0, gv_1, gv_2, pv_i, pv_r, pv_n, pv_q, pk_0, pk_2, pk_2n, pk_2q, pk_10, pk_11, rok_i, rok_z0, rok_z1, ex_eq, ex_z, ex_z2, ex_cz, List.filter_cons, List.filter_nil, List.take_succ_cons, List.take_zero, List.drop_succ_cons, List.drop_zero, List.reverse_cons, List.reverse_nil, List.nil_append, List.cons_append, List.append_nil, List.length_cons, List.length_nil, List.map_cons, List.map_nil, List.sum_cons, List.sum_nil, Bool.not_true, Bool.not_false, Bool.and_true, Bool.true_and, Bool.and_false, Bool.false_and, Bool.or_false, Bool.false_or, Bool.true_or, Bool.or_true, beq_self_eq_true, Nat.reduceBEq, Nat.reduceAdd, Nat.reduceSub, Nat.reduceLT, Nat.reduceLeDiff, Nat.reduceEqDiff, Int.reduceAdd, Int.reduceNeg, Int.reduceToNat, Int.reduceLE, Int.reduceNatCast, Int.reduceNatCast', ite_true, ite_false, if_true, if_false, reduceIte, true_and, and_true, false_and, and_false, true_or, or_true, false_or, or_false, Nat.sub_zero, Nat.le_refl, Bool.false_eq_true, Bool.true_eq_false, false_implies, true_implies, implies_true, not_true_eq_false, not_false_eq_true, eq_self, Fin.isValue, Nat.zero_add, Nat.add_zero, and_self, ne_eq, b01, Int32.reduceLT, Int32.reduceLE, z32, z64, vl_0, tl_0, vl_1, tl_1, vl_2, tl_2, vl_3, tl_3, vl_4, tl_4, vl_5, tl_5, vl_6, tl_6, vl_7, tl_7, vl_8, tl_8, vl_9, tl_9, m_X7_fitsBlocked, dX7_fitsBlocked_0, dX7_fitsBlocked_1, fl_6_13, dX7_fitsBlocked_4, dX7_fitsBlocked_5, dX7_fitsBlocked_6, dX7_fitsBlocked_8, dX7_fitsBlocked_9, fl_6_25, dX7_fitsBlocked_12, dX7_fitsBlocked_13, dX7_fitsBlocked_14, dX7_fitsBlocked_16, dX7_fitsBlocked_17, dX7_fitsBlocked_20, dX7_fitsBlocked_21, ki_2, dX7_fitsBlocked_22, dX7_fitsBlocked_23, dX7_fitsBlocked_24, dX7_fitsBlocked_27, dX7_fitsBlocked_28, dX7_fitsBlocked_30, dX7_fitsBlocked_31, dX7_fitsBlocked_32, dX7_fitsBlocked_33, dX7_fitsBlocked_34, cl_6_294, dX7_fitsBlocked_37, ki_m1, dX7_fitsBlocked_38, dX7_fitsBlocked_41, ki_1, dX7_fitsBlocked_42, dX7_fitsBlocked_45, ki_0, dX7_fitsBlocked_46, dX7_fitsBlocked_48, dX7_fitsBlocked_49, dX7_fitsBlocked_52, dX7_fitsBlocked_53, dX7_fitsBlocked_55, dX7_fitsBlocked_56, dX7_fitsBlocked_57, dX7_fitsBlocked_60, dX7_fitsBlocked_61, dX7_fitsBlocked_63, dX7_fitsBlocked_64, dX7_fitsBlocked_66, M3, hc, hin, em, setI_at, setI_1, setI_22]
  refine ⟨fun z => ?_, fun z => ?_⟩
  · rw [if_neg z]
    exact ⟨rfl, S4, R4⟩
  · rw [if_pos z]
    exact ⟨rfl, S4, R4⟩
end MB4
