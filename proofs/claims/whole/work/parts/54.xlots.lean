-- deps: 14 15 16 17 18 19 20 21 28 29 32 37 50 51 52 53
theorem s_msu_le (B : SB) (x : Nat) : ∀ (l : List Nat) (m : Nat), s_msu B l m ≤ x ↔ m ≤ x ∧ ∀ c ∈ l, B c 6 ≤ x
  | [], m => ⟨fun q => ⟨q, fun c hc => by cases hc⟩, fun q => q.1⟩
  | c :: r, m => by
    rw [show s_msu B (c :: r) m = s_msu B r (max m (B c 6)) from rfl, s_msu_le B x r]
    simp only [List.mem_cons, forall_eq_or_imp, Nat.max_le, and_assoc]
theorem mod_s1 {i nn : Nat} (h : 0 < nn) (e : i % nn + 1 = nn) : (i + 1) % nn = 0 := by
  rw [Nat.add_mod]
  by_cases h1 : nn = 1
  · subst h1
    exact Nat.mod_one _
  · rw [Nat.mod_eq_of_lt (show 1 < nn by omega), e, Nat.mod_self]
theorem mod_s2 {i nn : Nat} (h : 0 < nn) (e : i % nn + 1 ≠ nn) : (i + 1) % nn = i % nn + 1 := by
  have hl := Nat.mod_lt i h
  rw [Nat.add_mod, Nat.mod_eq_of_lt (show 1 < nn by omega), Nat.mod_eq_of_lt (by omega)]
/-- the chances of m fires -/
def s_chs (A : Nat → List Nat) (hw : Nat) (l : List Nat) : Nat → SB → List Nat
  | 0, _ => []
  | m + 1, B => l.map (fun c => s_ask A (s_burn A hw B l) 2 c (hw / 10) (hw % 10)) ++ s_chs A hw l m (s_burn A hw B l)
theorem s_chs_len (A : Nat → List Nat) (hw : Nat) (l : List Nat) : ∀ m B, (s_chs A hw l m B).length = m * l.length
  | 0, _ => by rw [Nat.zero_mul]; rfl
  | m + 1, B => by
    show (l.map _ ++ s_chs A hw l m _).length = _
    rw [List.length_append, List.length_map, s_chs_len A hw l m, Nat.succ_mul, Nat.add_comm]
theorem s_fl_len {n : Nat} {B : SB} (W : WFB n B) : ∀ u, u ≤ n → (s_fl B u).length ≤ u := by
  intro u
  induction u using Nat.strongRecOn with
  | _ u ih =>
    intro hu
    cases u with
    | zero => exact Nat.le_refl _
    | succ v =>
      have w0 := (W.2 v (by omega)).1
      rw [s_fl_s W (by omega), List.length_cons]
      have := ih (B v 0) (by omega) (by omega)
      omega
/-- chances lie in the row -/
def CH (base : Nat) (l : List Nat) (h : AH) : Prop := ∀ i, i < l.length → h.2.1 18 (base + i) = nI (l.getD i 0)
/-- what weighing the fires changes -/
def PWb (b k : Nat) : Prop := PT b ∨ b = 18 ∨ (200 ≤ b ∧ (k = 7 ∨ k = 11))
section XLT
variable {G : AG} {n : Nat} {B : SB} {p : Nat → Nat} {T r : Nat} {X E : Nat → Nat → Nat} {h : AH}
set_option maxRecDepth 100000 in
set_option maxHeartbeats 400000 in
theorem c_X1_staysBelow (W : WH n B p T r X E) (R : XH n B p T r X E h) {k hw fc line nn : Nat} (hk : k < n) (hh : hw < 100) (hf : fc < 100) (hl : line < 100) (hn : 0 < nn) (hn2 : nn ≤ 24) : AC G jX1_staysBelow 7 0 0 [.ref 11, .int (nI line), .int (nI nn), .ref (p k), .int (nI hw), .int (nI fc)] h (fun q h' => q = some (.int (if s_kb (s_L X E r) hw fc line nn (s_fl B (k + 1)) 1 24 B = true then 1 else 0)) ∧ FX PL h h' ∧ ∃ B1, WFB n B1 ∧ (∀ i j, j ≠ 6 → B1 i j = B i j) ∧ XH n B1 p T r X E h') := by
  generalize htt : s_kb (s_L X E r) hw fc line nn (s_fl B (k + 1)) 1 24 B = tt
  have lp : ∀ (m i : Nat) (B1 : SB) (h1 : AH), i + m = 24 → WFB n B1 → (∀ i j, j ≠ 6 → B1 i j = B i j) → FX PL h h1 → XH n B1 p T r X E h1 → s_kb (s_L X E r) hw fc line nn (s_fl B (k + 1)) (i + 1) m B1 = tt → AW G 1 8 false cX1_staysBelow (Option.some FieldType.boolean) 7 (fun q h' => q = some (.int (if tt = true then 1 else 0)) ∧ FX PL h h' ∧ ∃ B1, WFB n B1 ∧ (∀ i j, j ≠ 6 → B1 i j = B i j) ∧ XH n B1 p T r X E h') 0 0 6 [(0, .ref 11), (1, .int (nI line)), (2, .int (nI nn)), (3, .ref (p k)), (4, .int (nI hw)), (5, .int (nI fc)), (6, .int (nI (i % nn))), (7, .int (nI i))] [] h1 := by
    intro m
    induction m with
    | zero =>
      intro i B1 h1 hi W1 E1 F1 R1 ha
      have e : i = 24 := by omega
      subst e
      have ha2 : true = tt := ha
      subst ha2
      have z : ((24 : Int32) ≤ nI 24) = True := eq_true (by decide)
      refine ax_wq_ok (cuts := [ 6]) 60 ?_
      (simp only [lv_args, fn0, fn1, fn2, fn3, ax_wq_s, ax_step2, ax_ins2_u, ax_ins, ax_nx, ax_cut, ax_lk, ax_st1, ax_st2, ax_ins0, ax_tg, ax_go, ax_sw2, ax_lsw2, ax_kc_s, ax_kc_n, ax_rf_rf, ax_isR_rf, ct_int, ct_long, ct_ref, ct_null, ct_rf, rf_ref, rf_null, isR_ref, isR_null, va_rf_s, va_rf_n, gv_0, gv_1, gv_2, pv_i, pv_r, pv_n, pv_q, pk_0, pk_2, pk_2n, pk_2q, pk_10, pk_11, rok_i, rok_z0, rok_z1, ex_eq, ex_z, ex_z2, ex_cz, List.filter_cons, List.filter_nil, List.take_succ_cons, List.take_zero, List.drop_succ_cons, List.drop_zero, List.reverse_cons, List.reverse_nil, List.nil_append, List.cons_append, List.append_nil, List.length_cons, List.length_nil, List.map_cons, List.map_nil, List.sum_cons, List.sum_nil, Bool.not_true, Bool.not_false, Bool.and_true, Bool.true_and, Bool.and_false, Bool.false_and, Bool.or_false, Bool.false_or, Bool.true_or, Bool.or_true, beq_self_eq_true, Nat.reduceBEq, Nat.reduceAdd, Nat.reduceSub, Nat.reduceLT, Nat.reduceLeDiff, Nat.reduceEqDiff, Int.reduceAdd, Int.reduceNeg, Int.reduceToNat, Int.reduceLE, Int.reduceNatCast, Int.reduceNatCast', ↓reduceIte, if_true, if_false, true_and, and_true, false_and, and_false, true_or, or_true, false_or, or_false, Nat.sub_zero, Nat.le_refl, Bool.false_eq_true, Bool.true_eq_false, false_implies, true_implies, implies_true, not_true_eq_false, not_false_eq_true, eq_self, Fin.isValue, Nat.zero_add, Nat.add_zero, and_self, ne_eq, b01, Int32.reduceLT, Int32.reduceLE, z32, z64, vl_0, tl_0, vl_1, tl_1, vl_2, tl_2, vl_3, tl_3, vl_4, tl_4, vl_5, tl_5, vl_6, tl_6, vl_7, tl_7, vl_8, tl_8, vl_9, tl_9, Int.reduceSub, Int.reduceEq, Int.reduceLT, reduceCtorEq, ro_obj, m_X1_staysBelow, dX1_staysBelow_0, ki_0, dX1_staysBelow_1, dX1_staysBelow_3, dX1_staysBelow_4, dX1_staysBelow_6, dX1_staysBelow_8, kb_24, dX1_staysBelow_10, dX1_staysBelow_13, dX1_staysBelow_14, dX1_staysBelow_15, dX1_staysBelow_17, cl_1_111, dX1_staysBelow_20, dX1_staysBelow_21, cl_1_117, dX1_staysBelow_24, dX1_staysBelow_25, dX1_staysBelow_28, dX1_staysBelow_29, dX1_staysBelow_30, ki_1, dX1_staysBelow_33, dX1_staysBelow_35, dX1_staysBelow_36, dX1_staysBelow_39, dX1_staysBelow_40, dX1_staysBelow_41, dX1_staysBelow_43, cl_1_120, dX1_staysBelow_46, dX1_staysBelow_47, dX1_staysBelow_48, dX1_staysBelow_50, dX1_staysBelow_53, dX1_staysBelow_56, dX1_staysBelow_57, z]; try simp only [ax_ife, if_true, if_false, true_implies, implies_true, false_implies, and_true, true_and, not_true_eq_false, not_false_eq_true])
      exact ⟨rfl, F1, B1, W1, E1, R1⟩
    | succ m ih =>
      intro i B1 h1 hi W1 E1 F1 R1 ha
      have M1 := R1.1
      unfold HX at M1
      have WW : WH n B1 p T r X E := ⟨W1, W.2⟩
      have e0 : ∀ u, s_fl B1 u = s_fl B u := fun u => s_fl_e (fun i => E1 i 0 (by decide)) u
      have z : ((24 : Int32) ≤ nI i) = False := eq_false (fun q => by
        have := (i_Lle (n := 24) (by omega) (by decide)).mp q
        omega)
      have cl := c_X1_light (G := G) WW R1 hk hh
      rw [e0] at cl
      rw [show s_kb (s_L X E r) hw fc line nn (s_fl B (k + 1)) (i + 1) (m + 1) B1 = ((s_fl B (k + 1)).all (fun c => decide (s_burn (s_L X E r) hw B1 (s_fl B (k + 1)) c 6 ≤ line)) && s_kb (s_L X E r) hw fc line nn (s_fl B (k + 1)) (i + 1 + 1) m (if (i + 1) % nn = 0 then s_swB (s_L X E r) fc (s_burn (s_L X E r) hw B1 (s_fl B (k + 1))) (s_fl B (k + 1)) else s_burn (s_L X E r) hw B1 (s_fl B (k + 1)))) from rfl] at ha
      have W2 : WFB n (s_burn (s_L X E r) hw B1 (s_fl B (k + 1))) := WFB_burn _ _ _ _ W1
      have E2 : ∀ i j, j ≠ 6 → s_burn (s_L X E r) hw B1 (s_fl B (k + 1)) i j = B i j := fun i j hj => by rw [s_burn_e _ _ _ _ _ _ hj]; exact E1 i j hj
      generalize s_burn (s_L X E r) hw B1 (s_fl B (k + 1)) = B2 at *
      have e02 : ∀ u, s_fl B2 u = s_fl B u := fun u => s_fl_e (fun i => E2 i 0 (by decide)) u
      have x1 := (R1.2.1 k hk).1
      refine ax_wq_ok (cuts := [ 6]) 90 ?_
      (simp only [lv_args, fn0, fn1, fn2, fn3, ax_wq_s, ax_step2, ax_ins2_u, ax_ins, ax_nx, ax_cut, ax_lk, ax_st1, ax_st2, ax_ins0, ax_tg, ax_go, ax_sw2, ax_lsw2, ax_kc_s, ax_kc_n, ax_rf_rf, ax_isR_rf, ct_int, ct_long, ct_ref, ct_null, ct_rf, rf_ref, rf_null, isR_ref, isR_null, va_rf_s, va_rf_n, gv_0, gv_1, gv_2, pv_i, pv_r, pv_n, pv_q, pk_0, pk_2, pk_2n, pk_2q, pk_10, pk_11, rok_i, rok_z0, rok_z1, ex_eq, ex_z, ex_z2, ex_cz, List.filter_cons, List.filter_nil, List.take_succ_cons, List.take_zero, List.drop_succ_cons, List.drop_zero, List.reverse_cons, List.reverse_nil, List.nil_append, List.cons_append, List.append_nil, List.length_cons, List.length_nil, List.map_cons, List.map_nil, List.sum_cons, List.sum_nil, Bool.not_true, Bool.not_false, Bool.and_true, Bool.true_and, Bool.and_false, Bool.false_and, Bool.or_false, Bool.false_or, Bool.true_or, Bool.or_true, beq_self_eq_true, Nat.reduceBEq, Nat.reduceAdd, Nat.reduceSub, Nat.reduceLT, Nat.reduceLeDiff, Nat.reduceEqDiff, Int.reduceAdd, Int.reduceNeg, Int.reduceToNat, Int.reduceLE, Int.reduceNatCast, Int.reduceNatCast', ↓reduceIte, if_true, if_false, true_and, and_true, false_and, and_false, true_or, or_true, false_or, or_false, Nat.sub_zero, Nat.le_refl, Bool.false_eq_true, Bool.true_eq_false, false_implies, true_implies, implies_true, not_true_eq_false, not_false_eq_true, eq_self, Fin.isValue, Nat.zero_add, Nat.add_zero, and_self, ne_eq, b01, Int32.reduceLT, Int32.reduceLE, z32, z64, vl_0, tl_0, vl_1, tl_1, vl_2, tl_2, vl_3, tl_3, vl_4, tl_4, vl_5, tl_5, vl_6, tl_6, vl_7, tl_7, vl_8, tl_8, vl_9, tl_9, Int.reduceSub, Int.reduceEq, Int.reduceLT, reduceCtorEq, ro_obj, m_X1_staysBelow, dX1_staysBelow_0, ki_0, dX1_staysBelow_1, dX1_staysBelow_3, dX1_staysBelow_4, dX1_staysBelow_6, dX1_staysBelow_8, kb_24, dX1_staysBelow_10, dX1_staysBelow_13, dX1_staysBelow_14, dX1_staysBelow_15, dX1_staysBelow_17, cl_1_111, dX1_staysBelow_20, dX1_staysBelow_21, cl_1_117, dX1_staysBelow_24, dX1_staysBelow_25, dX1_staysBelow_28, dX1_staysBelow_29, dX1_staysBelow_30, ki_1, dX1_staysBelow_33, dX1_staysBelow_35, dX1_staysBelow_36, dX1_staysBelow_39, dX1_staysBelow_40, dX1_staysBelow_41, dX1_staysBelow_43, cl_1_120, dX1_staysBelow_46, dX1_staysBelow_47, dX1_staysBelow_48, dX1_staysBelow_50, dX1_staysBelow_53, dX1_staysBelow_56, dX1_staysBelow_57, M1, z]; try simp only [ax_ife, if_true, if_false, true_implies, implies_true, false_implies, and_true, true_and, not_true_eq_false, not_false_eq_true])
      refine ax_c0 cl (by decide) (fun h2 ⟨F2, R2⟩ => ?_)
      have x2 := (R2.2.1 k hk).1
      have M2 := R2.1
      unfold HX at M2
      have WW2 : WH n B2 p T r X E := ⟨W2, W.2⟩
      have cm := c_X0_mostSootUp (G := G) R2.2.1 W2 hk
      have mle := s_msu_le B2 99 (s_fl B2 (k + 1)) 0
      have m99 : s_msu B2 (s_fl B2 (k + 1)) 0 ≤ 99 := mle.mpr ⟨by omega, fun c hc => by
        have := s_fl_lt W2 (k + 1) c (by omega) hc
        exact (W2.2 c (by omega)).2.2.2.2.2.2.2⟩
      have ml := s_msu_le B2 line (s_fl B2 (k + 1)) 0
      rw [e02] at cm m99 ml
      generalize s_msu B2 (s_fl B (k + 1)) 0 = mm at *
      have le := nI_leI (a := mm) (b := line) (by omega) (by omega)
      (simp only [lv_args, fn0, fn1, fn2, fn3, ax_wq_s, ax_step2, ax_ins2_u, ax_ins, ax_nx, ax_cut, ax_lk, ax_st1, ax_st2, ax_ins0, ax_tg, ax_go, ax_sw2, ax_lsw2, ax_kc_s, ax_kc_n, ax_rf_rf, ax_isR_rf, ct_int, ct_long, ct_ref, ct_null, ct_rf, rf_ref, rf_null, isR_ref, isR_null, va_rf_s, va_rf_n, gv_0, gv_1, gv_2, pv_i, pv_r, pv_n, pv_q, pk_0, pk_2, pk_2n, pk_2q, pk_10, pk_11, rok_i, rok_z0, rok_z1, ex_eq, ex_z, ex_z2, ex_cz, List.filter_cons, List.filter_nil, List.take_succ_cons, List.take_zero, List.drop_succ_cons, List.drop_zero, List.reverse_cons, List.reverse_nil, List.nil_append, List.cons_append, List.append_nil, List.length_cons, List.length_nil, List.map_cons, List.map_nil, List.sum_cons, List.sum_nil, Bool.not_true, Bool.not_false, Bool.and_true, Bool.true_and, Bool.and_false, Bool.false_and, Bool.or_false, Bool.false_or, Bool.true_or, Bool.or_true, beq_self_eq_true, Nat.reduceBEq, Nat.reduceAdd, Nat.reduceSub, Nat.reduceLT, Nat.reduceLeDiff, Nat.reduceEqDiff, Int.reduceAdd, Int.reduceNeg, Int.reduceToNat, Int.reduceLE, Int.reduceNatCast, Int.reduceNatCast', ↓reduceIte, if_true, if_false, true_and, and_true, false_and, and_false, true_or, or_true, false_or, or_false, Nat.sub_zero, Nat.le_refl, Bool.false_eq_true, Bool.true_eq_false, false_implies, true_implies, implies_true, not_true_eq_false, not_false_eq_true, eq_self, Fin.isValue, Nat.zero_add, Nat.add_zero, and_self, ne_eq, b01, Int32.reduceLT, Int32.reduceLE, z32, z64, vl_0, tl_0, vl_1, tl_1, vl_2, tl_2, vl_3, tl_3, vl_4, tl_4, vl_5, tl_5, vl_6, tl_6, vl_7, tl_7, vl_8, tl_8, vl_9, tl_9, Int.reduceSub, Int.reduceEq, Int.reduceLT, reduceCtorEq, ro_obj, m_X1_staysBelow, dX1_staysBelow_0, ki_0, dX1_staysBelow_1, dX1_staysBelow_3, dX1_staysBelow_4, dX1_staysBelow_6, dX1_staysBelow_8, kb_24, dX1_staysBelow_10, dX1_staysBelow_13, dX1_staysBelow_14, dX1_staysBelow_15, dX1_staysBelow_17, cl_1_111, dX1_staysBelow_20, dX1_staysBelow_21, cl_1_117, dX1_staysBelow_24, dX1_staysBelow_25, dX1_staysBelow_28, dX1_staysBelow_29, dX1_staysBelow_30, ki_1, dX1_staysBelow_33, dX1_staysBelow_35, dX1_staysBelow_36, dX1_staysBelow_39, dX1_staysBelow_40, dX1_staysBelow_41, dX1_staysBelow_43, cl_1_120, dX1_staysBelow_46, dX1_staysBelow_47, dX1_staysBelow_48, dX1_staysBelow_50, dX1_staysBelow_53, dX1_staysBelow_56, dX1_staysBelow_57, x2]; try simp only [ax_ife, if_true, if_false, true_implies, implies_true, false_implies, and_true, true_and, not_true_eq_false, not_false_eq_true])
      refine ax_pu cm (by decide) ?_
      have F12 := FX_tr F1 F2
      by_cases hm : mm ≤ line
      · have zl := eq_true (le.mpr hm)
        have hall : (s_fl B (k + 1)).all (fun c => decide (B2 c 6 ≤ line)) = true := by
          rw [List.all_eq_true]
          intro c hc
          exact decide_eq_true ((ml.mp hm).2 c hc)
        rw [hall, Bool.true_and] at ha
        have hnn := Nat.mod_lt i hn
        have eqn := nI_eq (a := i % nn + 1) (b := nn) (by omega) (by omega)
        by_cases hq : i % nn + 1 = nn
        · have zn := eq_true (eqn.mpr hq)
          have hz := mod_s1 hn hq
          rw [if_pos hz] at ha
          have cb := c_X1_brush (G := G) WW2 R2 hk hf
          rw [e02] at cb
          (simp only [lv_args, fn0, fn1, fn2, fn3, ax_wq_s, ax_step2, ax_ins2_u, ax_ins, ax_nx, ax_cut, ax_lk, ax_st1, ax_st2, ax_ins0, ax_tg, ax_go, ax_sw2, ax_lsw2, ax_kc_s, ax_kc_n, ax_rf_rf, ax_isR_rf, ct_int, ct_long, ct_ref, ct_null, ct_rf, rf_ref, rf_null, isR_ref, isR_null, va_rf_s, va_rf_n, gv_0, gv_1, gv_2, pv_i, pv_r, pv_n, pv_q, pk_0, pk_2, pk_2n, pk_2q, pk_10, pk_11, rok_i, rok_z0, rok_z1, ex_eq, ex_z, ex_z2, ex_cz, List.filter_cons, List.filter_nil, List.take_succ_cons, List.take_zero, List.drop_succ_cons, List.drop_zero, List.reverse_cons, List.reverse_nil, List.nil_append, List.cons_append, List.append_nil, List.length_cons, List.length_nil, List.map_cons, List.map_nil, List.sum_cons, List.sum_nil, Bool.not_true, Bool.not_false, Bool.and_true, Bool.true_and, Bool.and_false, Bool.false_and, Bool.or_false, Bool.false_or, Bool.true_or, Bool.or_true, beq_self_eq_true, Nat.reduceBEq, Nat.reduceAdd, Nat.reduceSub, Nat.reduceLT, Nat.reduceLeDiff, Nat.reduceEqDiff, Int.reduceAdd, Int.reduceNeg, Int.reduceToNat, Int.reduceLE, Int.reduceNatCast, Int.reduceNatCast', ↓reduceIte, if_true, if_false, true_and, and_true, false_and, and_false, true_or, or_true, false_or, or_false, Nat.sub_zero, Nat.le_refl, Bool.false_eq_true, Bool.true_eq_false, false_implies, true_implies, implies_true, not_true_eq_false, not_false_eq_true, eq_self, Fin.isValue, Nat.zero_add, Nat.add_zero, and_self, ne_eq, b01, Int32.reduceLT, Int32.reduceLE, z32, z64, vl_0, tl_0, vl_1, tl_1, vl_2, tl_2, vl_3, tl_3, vl_4, tl_4, vl_5, tl_5, vl_6, tl_6, vl_7, tl_7, vl_8, tl_8, vl_9, tl_9, Int.reduceSub, Int.reduceEq, Int.reduceLT, reduceCtorEq, ro_obj, m_X1_staysBelow, dX1_staysBelow_0, ki_0, dX1_staysBelow_1, dX1_staysBelow_3, dX1_staysBelow_4, dX1_staysBelow_6, dX1_staysBelow_8, kb_24, dX1_staysBelow_10, dX1_staysBelow_13, dX1_staysBelow_14, dX1_staysBelow_15, dX1_staysBelow_17, cl_1_111, dX1_staysBelow_20, dX1_staysBelow_21, cl_1_117, dX1_staysBelow_24, dX1_staysBelow_25, dX1_staysBelow_28, dX1_staysBelow_29, dX1_staysBelow_30, ki_1, dX1_staysBelow_33, dX1_staysBelow_35, dX1_staysBelow_36, dX1_staysBelow_39, dX1_staysBelow_40, dX1_staysBelow_41, dX1_staysBelow_43, cl_1_120, dX1_staysBelow_46, dX1_staysBelow_47, dX1_staysBelow_48, dX1_staysBelow_50, dX1_staysBelow_53, dX1_staysBelow_56, dX1_staysBelow_57, M2, zl, zn, nI_1]; try simp only [ax_ife, if_true, if_false, true_implies, implies_true, false_implies, and_true, true_and, not_true_eq_false, not_false_eq_true])
          refine ax_cv cb (by decide) (fun h3 ⟨F3, R3⟩ => ?_)
          have g := ih (i + 1) _ h3 (by omega) (by have := WFB_swB (s_L X E r) fc W2 (u := k + 1) (by omega); rw [e02] at this; exact this) (fun i j hj => by rw [s_swB_e _ _ _ _ _ _ hj]; exact E2 i j hj) (FX_tr F12 F3) R3 ha
          rw [hz] at g
          (simp only [lv_args, fn0, fn1, fn2, fn3, ax_wq_s, ax_step2, ax_ins2_u, ax_ins, ax_nx, ax_cut, ax_lk, ax_st1, ax_st2, ax_ins0, ax_tg, ax_go, ax_sw2, ax_lsw2, ax_kc_s, ax_kc_n, ax_rf_rf, ax_isR_rf, ct_int, ct_long, ct_ref, ct_null, ct_rf, rf_ref, rf_null, isR_ref, isR_null, va_rf_s, va_rf_n, gv_0, gv_1, gv_2, pv_i, pv_r, pv_n, pv_q, pk_0, pk_2, pk_2n, pk_2q, pk_10, pk_11, rok_i, rok_z0, rok_z1, ex_eq, ex_z, ex_z2, ex_cz, List.filter_cons, List.filter_nil, List.take_succ_cons, List.take_zero, List.drop_succ_cons, List.drop_zero, List.reverse_cons, List.reverse_nil, List.nil_append, List.cons_append, List.append_nil, List.length_cons, List.length_nil, List.map_cons, List.map_nil, List.sum_cons, List.sum_nil, Bool.not_true, Bool.not_false, Bool.and_true, Bool.true_and, Bool.and_false, Bool.false_and, Bool.or_false, Bool.false_or, Bool.true_or, Bool.or_true, beq_self_eq_true, Nat.reduceBEq, Nat.reduceAdd, Nat.reduceSub, Nat.reduceLT, Nat.reduceLeDiff, Nat.reduceEqDiff, Int.reduceAdd, Int.reduceNeg, Int.reduceToNat, Int.reduceLE, Int.reduceNatCast, Int.reduceNatCast', ↓reduceIte, if_true, if_false, true_and, and_true, false_and, and_false, true_or, or_true, false_or, or_false, Nat.sub_zero, Nat.le_refl, Bool.false_eq_true, Bool.true_eq_false, false_implies, true_implies, implies_true, not_true_eq_false, not_false_eq_true, eq_self, Fin.isValue, Nat.zero_add, Nat.add_zero, and_self, ne_eq, b01, Int32.reduceLT, Int32.reduceLE, z32, z64, vl_0, tl_0, vl_1, tl_1, vl_2, tl_2, vl_3, tl_3, vl_4, tl_4, vl_5, tl_5, vl_6, tl_6, vl_7, tl_7, vl_8, tl_8, vl_9, tl_9, Int.reduceSub, Int.reduceEq, Int.reduceLT, reduceCtorEq, ro_obj, m_X1_staysBelow, dX1_staysBelow_0, ki_0, dX1_staysBelow_1, dX1_staysBelow_3, dX1_staysBelow_4, dX1_staysBelow_6, dX1_staysBelow_8, kb_24, dX1_staysBelow_10, dX1_staysBelow_13, dX1_staysBelow_14, dX1_staysBelow_15, dX1_staysBelow_17, cl_1_111, dX1_staysBelow_20, dX1_staysBelow_21, cl_1_117, dX1_staysBelow_24, dX1_staysBelow_25, dX1_staysBelow_28, dX1_staysBelow_29, dX1_staysBelow_30, ki_1, dX1_staysBelow_33, dX1_staysBelow_35, dX1_staysBelow_36, dX1_staysBelow_39, dX1_staysBelow_40, dX1_staysBelow_41, dX1_staysBelow_43, cl_1_120, dX1_staysBelow_46, dX1_staysBelow_47, dX1_staysBelow_48, dX1_staysBelow_50, dX1_staysBelow_53, dX1_staysBelow_56, dX1_staysBelow_57, nI_1]; try simp only [ax_ife, if_true, if_false, true_implies, implies_true, false_implies, and_true, true_and, not_true_eq_false, not_false_eq_true])
          exact g
        · have zn := eq_false (fun y => hq (eqn.mp y))
          have hz := mod_s2 hn hq
          rw [if_neg (by omega)] at ha
          have g := ih (i + 1) _ h2 (by omega) W2 E2 F12 R2 ha
          rw [hz] at g
          (simp only [lv_args, fn0, fn1, fn2, fn3, ax_wq_s, ax_step2, ax_ins2_u, ax_ins, ax_nx, ax_cut, ax_lk, ax_st1, ax_st2, ax_ins0, ax_tg, ax_go, ax_sw2, ax_lsw2, ax_kc_s, ax_kc_n, ax_rf_rf, ax_isR_rf, ct_int, ct_long, ct_ref, ct_null, ct_rf, rf_ref, rf_null, isR_ref, isR_null, va_rf_s, va_rf_n, gv_0, gv_1, gv_2, pv_i, pv_r, pv_n, pv_q, pk_0, pk_2, pk_2n, pk_2q, pk_10, pk_11, rok_i, rok_z0, rok_z1, ex_eq, ex_z, ex_z2, ex_cz, List.filter_cons, List.filter_nil, List.take_succ_cons, List.take_zero, List.drop_succ_cons, List.drop_zero, List.reverse_cons, List.reverse_nil, List.nil_append, List.cons_append, List.append_nil, List.length_cons, List.length_nil, List.map_cons, List.map_nil, List.sum_cons, List.sum_nil, Bool.not_true, Bool.not_false, Bool.and_true, Bool.true_and, Bool.and_false, Bool.false_and, Bool.or_false, Bool.false_or, Bool.true_or, Bool.or_true, beq_self_eq_true, Nat.reduceBEq, Nat.reduceAdd, Nat.reduceSub, Nat.reduceLT, Nat.reduceLeDiff, Nat.reduceEqDiff, Int.reduceAdd, Int.reduceNeg, Int.reduceToNat, Int.reduceLE, Int.reduceNatCast, Int.reduceNatCast', ↓reduceIte, if_true, if_false, true_and, and_true, false_and, and_false, true_or, or_true, false_or, or_false, Nat.sub_zero, Nat.le_refl, Bool.false_eq_true, Bool.true_eq_false, false_implies, true_implies, implies_true, not_true_eq_false, not_false_eq_true, eq_self, Fin.isValue, Nat.zero_add, Nat.add_zero, and_self, ne_eq, b01, Int32.reduceLT, Int32.reduceLE, z32, z64, vl_0, tl_0, vl_1, tl_1, vl_2, tl_2, vl_3, tl_3, vl_4, tl_4, vl_5, tl_5, vl_6, tl_6, vl_7, tl_7, vl_8, tl_8, vl_9, tl_9, Int.reduceSub, Int.reduceEq, Int.reduceLT, reduceCtorEq, ro_obj, m_X1_staysBelow, dX1_staysBelow_0, ki_0, dX1_staysBelow_1, dX1_staysBelow_3, dX1_staysBelow_4, dX1_staysBelow_6, dX1_staysBelow_8, kb_24, dX1_staysBelow_10, dX1_staysBelow_13, dX1_staysBelow_14, dX1_staysBelow_15, dX1_staysBelow_17, cl_1_111, dX1_staysBelow_20, dX1_staysBelow_21, cl_1_117, dX1_staysBelow_24, dX1_staysBelow_25, dX1_staysBelow_28, dX1_staysBelow_29, dX1_staysBelow_30, ki_1, dX1_staysBelow_33, dX1_staysBelow_35, dX1_staysBelow_36, dX1_staysBelow_39, dX1_staysBelow_40, dX1_staysBelow_41, dX1_staysBelow_43, cl_1_120, dX1_staysBelow_46, dX1_staysBelow_47, dX1_staysBelow_48, dX1_staysBelow_50, dX1_staysBelow_53, dX1_staysBelow_56, dX1_staysBelow_57, M2, zl, zn, nI_1]; try simp only [ax_ife, if_true, if_false, true_implies, implies_true, false_implies, and_true, true_and, not_true_eq_false, not_false_eq_true])
          exact g
      · have zl := eq_false (fun q => hm (le.mp q))
        have hall : (s_fl B (k + 1)).all (fun c => decide (B2 c 6 ≤ line)) = false := by
          rw [← Bool.not_eq_true, List.all_eq_true]
          intro q
          exact hm (ml.mpr ⟨by omega, fun c hc => of_decide_eq_true (q c hc)⟩)
        rw [hall, Bool.false_and] at ha
        subst ha
        (simp only [lv_args, fn0, fn1, fn2, fn3, ax_wq_s, ax_step2, ax_ins2_u, ax_ins, ax_nx, ax_cut, ax_lk, ax_st1, ax_st2, ax_ins0, ax_tg, ax_go, ax_sw2, ax_lsw2, ax_kc_s, ax_kc_n, ax_rf_rf, ax_isR_rf, ct_int, ct_long, ct_ref, ct_null, ct_rf, rf_ref, rf_null, isR_ref, isR_null, va_rf_s, va_rf_n, gv_0, gv_1, gv_2, pv_i, pv_r, pv_n, pv_q, pk_0, pk_2, pk_2n, pk_2q, pk_10, pk_11, rok_i, rok_z0, rok_z1, ex_eq, ex_z, ex_z2, ex_cz, List.filter_cons, List.filter_nil, List.take_succ_cons, List.take_zero, List.drop_succ_cons, List.drop_zero, List.reverse_cons, List.reverse_nil, List.nil_append, List.cons_append, List.append_nil, List.length_cons, List.length_nil, List.map_cons, List.map_nil, List.sum_cons, List.sum_nil, Bool.not_true, Bool.not_false, Bool.and_true, Bool.true_and, Bool.and_false, Bool.false_and, Bool.or_false, Bool.false_or, Bool.true_or, Bool.or_true, beq_self_eq_true, Nat.reduceBEq, Nat.reduceAdd, Nat.reduceSub, Nat.reduceLT, Nat.reduceLeDiff, Nat.reduceEqDiff, Int.reduceAdd, Int.reduceNeg, Int.reduceToNat, Int.reduceLE, Int.reduceNatCast, Int.reduceNatCast', ↓reduceIte, if_true, if_false, true_and, and_true, false_and, and_false, true_or, or_true, false_or, or_false, Nat.sub_zero, Nat.le_refl, Bool.false_eq_true, Bool.true_eq_false, false_implies, true_implies, implies_true, not_true_eq_false, not_false_eq_true, eq_self, Fin.isValue, Nat.zero_add, Nat.add_zero, and_self, ne_eq, b01, Int32.reduceLT, Int32.reduceLE, z32, z64, vl_0, tl_0, vl_1, tl_1, vl_2, tl_2, vl_3, tl_3, vl_4, tl_4, vl_5, tl_5, vl_6, tl_6, vl_7, tl_7, vl_8, tl_8, vl_9, tl_9, Int.reduceSub, Int.reduceEq, Int.reduceLT, reduceCtorEq, ro_obj, m_X1_staysBelow, dX1_staysBelow_0, ki_0, dX1_staysBelow_1, dX1_staysBelow_3, dX1_staysBelow_4, dX1_staysBelow_6, dX1_staysBelow_8, kb_24, dX1_staysBelow_10, dX1_staysBelow_13, dX1_staysBelow_14, dX1_staysBelow_15, dX1_staysBelow_17, cl_1_111, dX1_staysBelow_20, dX1_staysBelow_21, cl_1_117, dX1_staysBelow_24, dX1_staysBelow_25, dX1_staysBelow_28, dX1_staysBelow_29, dX1_staysBelow_30, ki_1, dX1_staysBelow_33, dX1_staysBelow_35, dX1_staysBelow_36, dX1_staysBelow_39, dX1_staysBelow_40, dX1_staysBelow_41, dX1_staysBelow_43, cl_1_120, dX1_staysBelow_46, dX1_staysBelow_47, dX1_staysBelow_48, dX1_staysBelow_50, dX1_staysBelow_53, dX1_staysBelow_56, dX1_staysBelow_57, zl]; try simp only [ax_ife, if_true, if_false, true_implies, implies_true, false_implies, and_true, true_and, not_true_eq_false, not_false_eq_true])
        exact ⟨rfl, F12, B2, W2, E2, R2⟩
  refine ax_intro 1 false cdX1_staysBelow (by decide +kernel) (by decide +kernel) (by decide +kernel) (Nat.le_of_ble_eq_true rfl) ?_
  refine ax_wq_ok (cuts := [ 6]) 30 ?_
  (simp only [lv_args, fn0, fn1, fn2, fn3, ax_wq_s, ax_step2, ax_ins2_u, ax_ins, ax_nx, ax_cut, ax_lk, ax_st1, ax_st2, ax_ins0, ax_tg, ax_go, ax_sw2, ax_lsw2, ax_kc_s, ax_kc_n, ax_rf_rf, ax_isR_rf, ct_int, ct_long, ct_ref, ct_null, ct_rf, rf_ref, rf_null, isR_ref, isR_null, va_rf_s, va_rf_n, gv_0, gv_1, gv_2, pv_i, pv_r, pv_n, pv_q, pk_0, pk_2, pk_2n, pk_2q, pk_10, pk_11, rok_i, rok_z0, rok_z1, ex_eq, ex_z, ex_z2, ex_cz, List.filter_cons, List.filter_nil, List.take_succ_cons, List.take_zero, List.drop_succ_cons, List.drop_zero, List.reverse_cons, List.reverse_nil, List.nil_append, List.cons_append, List.append_nil, List.length_cons, List.length_nil, List.map_cons, List.map_nil, List.sum_cons, List.sum_nil, Bool.not_true, Bool.not_false, Bool.and_true, Bool.true_and, Bool.and_false, Bool.false_and, Bool.or_false, Bool.false_or, Bool.true_or, Bool.or_true, beq_self_eq_true, Nat.reduceBEq, Nat.reduceAdd, Nat.reduceSub, Nat.reduceLT, Nat.reduceLeDiff, Nat.reduceEqDiff, Int.reduceAdd, Int.reduceNeg, Int.reduceToNat, Int.reduceLE, Int.reduceNatCast, Int.reduceNatCast', ↓reduceIte, if_true, if_false, true_and, and_true, false_and, and_false, true_or, or_true, false_or, or_false, Nat.sub_zero, Nat.le_refl, Bool.false_eq_true, Bool.true_eq_false, false_implies, true_implies, implies_true, not_true_eq_false, not_false_eq_true, eq_self, Fin.isValue, Nat.zero_add, Nat.add_zero, and_self, ne_eq, b01, Int32.reduceLT, Int32.reduceLE, z32, z64, vl_0, tl_0, vl_1, tl_1, vl_2, tl_2, vl_3, tl_3, vl_4, tl_4, vl_5, tl_5, vl_6, tl_6, vl_7, tl_7, vl_8, tl_8, vl_9, tl_9, Int.reduceSub, Int.reduceEq, Int.reduceLT, reduceCtorEq, ro_obj, m_X1_staysBelow, dX1_staysBelow_0, ki_0, dX1_staysBelow_1, dX1_staysBelow_3, dX1_staysBelow_4, dX1_staysBelow_6, dX1_staysBelow_8, kb_24, dX1_staysBelow_10, dX1_staysBelow_13, dX1_staysBelow_14, dX1_staysBelow_15, dX1_staysBelow_17, cl_1_111, dX1_staysBelow_20, dX1_staysBelow_21, cl_1_117, dX1_staysBelow_24, dX1_staysBelow_25, dX1_staysBelow_28, dX1_staysBelow_29, dX1_staysBelow_30, ki_1, dX1_staysBelow_33, dX1_staysBelow_35, dX1_staysBelow_36, dX1_staysBelow_39, dX1_staysBelow_40, dX1_staysBelow_41, dX1_staysBelow_43, cl_1_120, dX1_staysBelow_46, dX1_staysBelow_47, dX1_staysBelow_48, dX1_staysBelow_50, dX1_staysBelow_53, dX1_staysBelow_56, dX1_staysBelow_57]; try simp only [ax_ife, if_true, if_false, true_implies, implies_true, false_implies, and_true, true_and, not_true_eq_false, not_false_eq_true])
  have := lp 24 0 B h (by omega) W.1 (fun _ _ _ => rfl) (FX_rf _ _) R htt
  rw [Nat.zero_mod] at this
  exact this
set_option maxRecDepth 100000 in
set_option maxHeartbeats 400000 in
theorem i_X1_weigh (W : WH n B p T r X E) {k hw many j : Nat} (hk : k < n) (hh : hw < 100) (Q : Option Value → AH → Prop) : ∀ (u : Nat) (cs0 : List Nat) (h1 : AH), u ≤ n → cs0.length + (s_fl B u).length ≤ 400 → XH n B p T r X E h1 → CH 0 cs0 h1 → (∀ h2, FX (fun b _ => PT b ∨ b = 18) h1 h2 → XH n B p T r X E h2 → CH 0 (cs0 ++ (s_fl B u).map (fun c => s_ask (s_L X E r) B 2 c (hw / 10) (hw % 10))) h2 → AW G 1 7 false cX1_weighBurning (Option.none : Option FieldType) 6 Q 0 0 71 [(0, .ref 11), (1, .ref (p k)), (2, .int (nI many)), (3, .int (nI hw)), (4, .int (nI (cs0 ++ (s_fl B u).map (fun c => s_ask (s_L X E r) B 2 c (hw / 10) (hw % 10))).length)), (5, .int (nI j))] [] h2) → AW G 1 7 false cX1_weighBurning (Option.none : Option FieldType) 6 Q 0 0 25 [(0, .ref 11), (1, .ref (p k)), (2, .int (nI many)), (3, .int (nI hw)), (4, .int (nI cs0.length)), (5, .int (nI j)), (6, va_rf (s_pr p u))] [] h1 := by
  intro u
  induction u using Nat.strongRecOn with
  | _ u ih =>
    intro cs0 h1 hu hlen R1 C1 fin
    have M1 := R1.1
    unfold HX at M1
    cases u with
    | zero =>
      have g := fin h1 (FX_rf _ _) R1 (by rw [s_fl_0, List.map_nil, List.append_nil]; exact C1)
      rw [s_fl_0, List.map_nil, List.append_nil] at g
      refine ax_wq_ok (cuts := [ 10, 25, 71]) 40 ?_
      (simp only [lv_args, fn0, fn1, fn2, fn3, ax_wq_s, ax_step2, ax_ins2_u, ax_ins, ax_nx, ax_cut, ax_lk, ax_st1, ax_st2, ax_ins0, ax_tg, ax_go, ax_sw2, ax_lsw2, ax_kc_s, ax_kc_n, ax_rf_rf, ax_isR_rf, ct_int, ct_long, ct_ref, ct_null, ct_rf, rf_ref, rf_null, isR_ref, isR_null, va_rf_s, va_rf_n, gv_0, gv_1, gv_2, pv_i, pv_r, pv_n, pv_q, pk_0, pk_2, pk_2n, pk_2q, pk_10, pk_11, rok_i, rok_z0, rok_z1, ex_eq, ex_z, ex_z2, ex_cz, List.filter_cons, List.filter_nil, List.take_succ_cons, List.take_zero, List.drop_succ_cons, List.drop_zero, List.reverse_cons, List.reverse_nil, List.nil_append, List.cons_append, List.append_nil, List.length_cons, List.length_nil, List.map_cons, List.map_nil, List.sum_cons, List.sum_nil, Bool.not_true, Bool.not_false, Bool.and_true, Bool.true_and, Bool.and_false, Bool.false_and, Bool.or_false, Bool.false_or, Bool.true_or, Bool.or_true, beq_self_eq_true, Nat.reduceBEq, Nat.reduceAdd, Nat.reduceSub, Nat.reduceLT, Nat.reduceLeDiff, Nat.reduceEqDiff, Int.reduceAdd, Int.reduceNeg, Int.reduceToNat, Int.reduceLE, Int.reduceNatCast, Int.reduceNatCast', ↓reduceIte, if_true, if_false, true_and, and_true, false_and, and_false, true_or, or_true, false_or, or_false, Nat.sub_zero, Nat.le_refl, Bool.false_eq_true, Bool.true_eq_false, false_implies, true_implies, implies_true, not_true_eq_false, not_false_eq_true, eq_self, Fin.isValue, Nat.zero_add, Nat.add_zero, and_self, ne_eq, b01, Int32.reduceLT, Int32.reduceLE, z32, z64, vl_0, tl_0, vl_1, tl_1, vl_2, tl_2, vl_3, tl_3, vl_4, tl_4, vl_5, tl_5, vl_6, tl_6, vl_7, tl_7, vl_8, tl_8, vl_9, tl_9, Int.reduceSub, Int.reduceEq, Int.reduceLT, reduceCtorEq, ro_obj, m_X1_weighBurning, dX1_weighBurning_0, ki_0, dX1_weighBurning_1, dX1_weighBurning_3, dX1_weighBurning_4, cl_1_124, dX1_weighBurning_7, dX1_weighBurning_8, dX1_weighBurning_10, dX1_weighBurning_12, dX1_weighBurning_13, dX1_weighBurning_16, dX1_weighBurning_17, dX1_weighBurning_18, dX1_weighBurning_19, cl_1_111, dX1_weighBurning_22, dX1_weighBurning_23, dX1_weighBurning_25, dX1_weighBurning_27, dX1_weighBurning_30, dX1_weighBurning_32, dX1_weighBurning_33, fl_1_23, dX1_weighBurning_36, dX1_weighBurning_37, dX1_weighBurning_40, dX1_weighBurning_41, dX1_weighBurning_44, dX1_weighBurning_46, dX1_weighBurning_47, fl_1_27, dX1_weighBurning_50, ki_2, dX1_weighBurning_51, dX1_weighBurning_53, dX1_weighBurning_54, cl_1_85, dX1_weighBurning_57, dX1_weighBurning_58, ki_1, dX1_weighBurning_61, dX1_weighBurning_63, fl_1_43, dX1_weighBurning_66, dX1_weighBurning_68, dX1_weighBurning_71, dX1_weighBurning_74, dX1_weighBurning_77, dX1_weighBurning_78, cl_1_127, dX1_weighBurning_81, s_pr_0]; try simp only [ax_ife, if_true, if_false, true_implies, implies_true, false_implies, and_true, true_and, not_true_eq_false, not_false_eq_true])
      exact ax_sub (fun q hq => by simp only [List.mem_cons, List.not_mem_nil, or_false] at hq ⊢; rcases hq with hq | hq | hq | hq | hq | hq <;> simp [hq]) g
    | succ v =>
      have hV : v < n := by omega
      have hr := W.2.1.1
      have hT := W.2.1.2.1
      have cs := c_says (G := G) W R1 hr (pt := 2) hV (by decide) hh
      have lo := (R1.2.2 r hr).1.1
      have x1 := (R1.2.1 v hV).1
      rw [s_fl_s W.1 hV] at fin hlen
      rw [List.length_cons] at hlen
      have z := eq_false (nI_ge (a := cs0.length) (b := 400) (by omega) (by decide))
      have z' : (Int32.ofNat 400 ≤ nI cs0.length) = False := z
      have hc : (nI cs0.length).toNatClampNeg = cs0.length := nI_clamp (by omega)
      have hin : vp_in (nI cs0.length) 400 := vp_in_nI (by omega) (by decide)
      rw [s_pr_s, va_rf_s]
      refine ax_wq_ok (cuts := [ 10, 25, 71]) 60 ?_
      (simp only [lv_args, fn0, fn1, fn2, fn3, ax_wq_s, ax_step2, ax_ins2_u, ax_ins, ax_nx, ax_cut, ax_lk, ax_st1, ax_st2, ax_ins0, ax_tg, ax_go, ax_sw2, ax_lsw2, ax_kc_s, ax_kc_n, ax_rf_rf, ax_isR_rf, ct_int, ct_long, ct_ref, ct_null, ct_rf, rf_ref, rf_null, isR_ref, isR_null, va_rf_s, va_rf_n, gv_0, gv_1, gv_2, pv_i, pv_r, pv_n, pv_q, pk_0, pk_2, pk_2n, pk_2q, pk_10, pk_11, rok_i, rok_z0, rok_z1, ex_eq, ex_z, ex_z2, ex_cz, List.filter_cons, List.filter_nil, List.take_succ_cons, List.take_zero, List.drop_succ_cons, List.drop_zero, List.reverse_cons, List.reverse_nil, List.nil_append, List.cons_append, List.append_nil, List.length_cons, List.length_nil, List.map_cons, List.map_nil, List.sum_cons, List.sum_nil, Bool.not_true, Bool.not_false, Bool.and_true, Bool.true_and, Bool.and_false, Bool.false_and, Bool.or_false, Bool.false_or, Bool.true_or, Bool.or_true, beq_self_eq_true, Nat.reduceBEq, Nat.reduceAdd, Nat.reduceSub, Nat.reduceLT, Nat.reduceLeDiff, Nat.reduceEqDiff, Int.reduceAdd, Int.reduceNeg, Int.reduceToNat, Int.reduceLE, Int.reduceNatCast, Int.reduceNatCast', ↓reduceIte, if_true, if_false, true_and, and_true, false_and, and_false, true_or, or_true, false_or, or_false, Nat.sub_zero, Nat.le_refl, Bool.false_eq_true, Bool.true_eq_false, false_implies, true_implies, implies_true, not_true_eq_false, not_false_eq_true, eq_self, Fin.isValue, Nat.zero_add, Nat.add_zero, and_self, ne_eq, b01, Int32.reduceLT, Int32.reduceLE, z32, z64, vl_0, tl_0, vl_1, tl_1, vl_2, tl_2, vl_3, tl_3, vl_4, tl_4, vl_5, tl_5, vl_6, tl_6, vl_7, tl_7, vl_8, tl_8, vl_9, tl_9, Int.reduceSub, Int.reduceEq, Int.reduceLT, reduceCtorEq, ro_obj, m_X1_weighBurning, dX1_weighBurning_0, ki_0, dX1_weighBurning_1, dX1_weighBurning_3, dX1_weighBurning_4, cl_1_124, dX1_weighBurning_7, dX1_weighBurning_8, dX1_weighBurning_10, dX1_weighBurning_12, dX1_weighBurning_13, dX1_weighBurning_16, dX1_weighBurning_17, dX1_weighBurning_18, dX1_weighBurning_19, cl_1_111, dX1_weighBurning_22, dX1_weighBurning_23, dX1_weighBurning_25, dX1_weighBurning_27, dX1_weighBurning_30, dX1_weighBurning_32, dX1_weighBurning_33, fl_1_23, dX1_weighBurning_36, dX1_weighBurning_37, dX1_weighBurning_40, dX1_weighBurning_41, dX1_weighBurning_44, dX1_weighBurning_46, dX1_weighBurning_47, fl_1_27, dX1_weighBurning_50, ki_2, dX1_weighBurning_51, dX1_weighBurning_53, dX1_weighBurning_54, cl_1_85, dX1_weighBurning_57, dX1_weighBurning_58, ki_1, dX1_weighBurning_61, dX1_weighBurning_63, fl_1_43, dX1_weighBurning_66, dX1_weighBurning_68, dX1_weighBurning_71, dX1_weighBurning_74, dX1_weighBurning_77, dX1_weighBurning_78, cl_1_127, dX1_weighBurning_81, M1, lo, x1, z']; try simp only [ax_ife, if_true, if_false, true_implies, implies_true, false_implies, and_true, true_and, not_true_eq_false, not_false_eq_true])
      refine ax_cv cs (by decide) (fun h2 F2 => ?_)
      obtain ⟨R2, F2'⟩ := says_XH W R1 hr F2
      have M2 := R2.1
      unfold HX at M2
      obtain ⟨x1', -, y1', -⟩ := R2.2.1 v hV
      generalize s_ask (s_L X E r) B 2 v (hw / 10) (hw % 10) = av at *
      have F3 : FX (fun b _ => PT b ∨ b = 18) h1 (ax_setI h2 18 cs0.length (nI av)) := FX_st (FX_mo F2' (fun _ _ q => Or.inl q)) (Or.inr rfl)
      have R3 : XH n B p T r X E (ax_setI h2 18 cs0.length (nI av)) := XH_FX F3 (fun b k q => by
        rcases q with q | q
        · exact Or.inl q
        · exact Or.inr (Or.inl q)) W R1
      have l1 : (cs0 ++ [av]).length = cs0.length + 1 := by rw [List.length_append]; rfl
      have C3 : CH 0 (cs0 ++ [av]) (ax_setI h2 18 cs0.length (nI av)) := fun i hi => by
        rw [l1] at hi
        rw [setI_at, Nat.zero_add]
        by_cases e : i = cs0.length
        · rw [if_pos ⟨rfl, e⟩, e, s_gD_r]
        · rw [if_neg (fun y => e y.2), s_gD_l (by omega), F2'.2.2 _ _ (by unfold PT; omega)]
          have := C1 i (by omega)
          rw [Nat.zero_add] at this
          exact this
      have w0 := (W.1.2 v hV).1
      (simp only [lv_args, fn0, fn1, fn2, fn3, ax_wq_s, ax_step2, ax_ins2_u, ax_ins, ax_nx, ax_cut, ax_lk, ax_st1, ax_st2, ax_ins0, ax_tg, ax_go, ax_sw2, ax_lsw2, ax_kc_s, ax_kc_n, ax_rf_rf, ax_isR_rf, ct_int, ct_long, ct_ref, ct_null, ct_rf, rf_ref, rf_null, isR_ref, isR_null, va_rf_s, va_rf_n, gv_0, gv_1, gv_2, pv_i, pv_r, pv_n, pv_q, pk_0, pk_2, pk_2n, pk_2q, pk_10, pk_11, rok_i, rok_z0, rok_z1, ex_eq, ex_z, ex_z2, ex_cz, List.filter_cons, List.filter_nil, List.take_succ_cons, List.take_zero, List.drop_succ_cons, List.drop_zero, List.reverse_cons, List.reverse_nil, List.nil_append, List.cons_append, List.append_nil, List.length_cons, List.length_nil, List.map_cons, List.map_nil, List.sum_cons, List.sum_nil, Bool.not_true, Bool.not_false, Bool.and_true, Bool.true_and, Bool.and_false, Bool.false_and, Bool.or_false, Bool.false_or, Bool.true_or, Bool.or_true, beq_self_eq_true, Nat.reduceBEq, Nat.reduceAdd, Nat.reduceSub, Nat.reduceLT, Nat.reduceLeDiff, Nat.reduceEqDiff, Int.reduceAdd, Int.reduceNeg, Int.reduceToNat, Int.reduceLE, Int.reduceNatCast, Int.reduceNatCast', ↓reduceIte, if_true, if_false, true_and, and_true, false_and, and_false, true_or, or_true, false_or, or_false, Nat.sub_zero, Nat.le_refl, Bool.false_eq_true, Bool.true_eq_false, false_implies, true_implies, implies_true, not_true_eq_false, not_false_eq_true, eq_self, Fin.isValue, Nat.zero_add, Nat.add_zero, and_self, ne_eq, b01, Int32.reduceLT, Int32.reduceLE, z32, z64, vl_0, tl_0, vl_1, tl_1, vl_2, tl_2, vl_3, tl_3, vl_4, tl_4, vl_5, tl_5, vl_6, tl_6, vl_7, tl_7, vl_8, tl_8, vl_9, tl_9, Int.reduceSub, Int.reduceEq, Int.reduceLT, reduceCtorEq, ro_obj, m_X1_weighBurning, dX1_weighBurning_0, ki_0, dX1_weighBurning_1, dX1_weighBurning_3, dX1_weighBurning_4, cl_1_124, dX1_weighBurning_7, dX1_weighBurning_8, dX1_weighBurning_10, dX1_weighBurning_12, dX1_weighBurning_13, dX1_weighBurning_16, dX1_weighBurning_17, dX1_weighBurning_18, dX1_weighBurning_19, cl_1_111, dX1_weighBurning_22, dX1_weighBurning_23, dX1_weighBurning_25, dX1_weighBurning_27, dX1_weighBurning_30, dX1_weighBurning_32, dX1_weighBurning_33, fl_1_23, dX1_weighBurning_36, dX1_weighBurning_37, dX1_weighBurning_40, dX1_weighBurning_41, dX1_weighBurning_44, dX1_weighBurning_46, dX1_weighBurning_47, fl_1_27, dX1_weighBurning_50, ki_2, dX1_weighBurning_51, dX1_weighBurning_53, dX1_weighBurning_54, cl_1_85, dX1_weighBurning_57, dX1_weighBurning_58, ki_1, dX1_weighBurning_61, dX1_weighBurning_63, fl_1_43, dX1_weighBurning_66, dX1_weighBurning_68, dX1_weighBurning_71, dX1_weighBurning_74, dX1_weighBurning_77, dX1_weighBurning_78, cl_1_127, dX1_weighBurning_81, M2, hc, hin, x1', y1', setI_1, setI_22, nI_1]; try simp only [ax_ife, if_true, if_false, true_implies, implies_true, false_implies, and_true, true_and, not_true_eq_false, not_false_eq_true])
      have g := ih (B v 0) (by omega) (cs0 ++ [av]) _ (by omega) (by omega) R3 C3 (fun h4 F4 R4 C4 => by
        have e : (cs0 ++ [av]) ++ (s_fl B (B v 0)).map (fun c => s_ask (s_L X E r) B 2 c (hw / 10) (hw % 10)) = cs0 ++ (av :: (s_fl B (B v 0)).map (fun c => s_ask (s_L X E r) B 2 c (hw / 10) (hw % 10))) := by rw [List.append_assoc]; rfl
        rw [e] at C4 ⊢
        sorry)
      rw [l1] at g
      exact g
end XLT
